def okF (F : Nat → Int) : Prop := ((0 ≤ F 13 ∧ F 13 ≤ 4) ∧ (0 ≤ F 14 ∧ F 14 ≤ 24) ∧ (0 ≤ F 25 ∧ F 25 ≤ 50) ∧ ((0 ≤ F 28 ∧ F 28 ≤ 50) ∧ (-1 ≤ F 27 ∧ F 27 ≤ 23) ∧ (F 27 = -1 ∨ 1 ≤ F 28)) ∧ (0 ≤ F 29 ∧ F 29 ≤ 1)) ∧ (0 ≤ F 15 ∧ F 15 ≤ 40) ∧ (0 ≤ F 16 ∧ F 16 ≤ 39) ∧ (0 ≤ F 17 ∧ F 17 ≤ 8) ∧ (0 ≤ F 18 ∧ F 18 ≤ 40) ∧ (0 ≤ F 19 ∧ F 19 ≤ 39) ∧ (0 ≤ F 20 ∧ F 20 ≤ 8) ∧ (0 ≤ F 23 ∧ F 23 ≤ 900) ∧ (0 ≤ F 21 ∧ F 21 ≤ 1)
/-- what the reader has told, without the TABLE (which each reading clears at its start) -/
def okTy (cs : Nat → ClassId) (g : Nat → va_E) (i : Nat) (F : Nat → Int) : Prop := ∃ st1 op1 mn1 ai1 fa1 mu1 tb1 ly1 : Nat → Int, (g (i + 16) = iA cs 4 st1 ∧ g (i + 17) = iA cs 4 op1 ∧ g (i + 18) = iA cs 4 mn1 ∧ g (i + 19) = iA cs 24 ai1 ∧ g (i + 20) = iA cs 24 fa1 ∧ g (i + 21) = iA cs 24 mu1 ∧ g (i + 22) = iA cs 15 tb1 ∧ g (i + 23) = iA cs 336 ly1) ∧ ((0 ≤ F 47 ∧ F 47 ≤ 4) ∧ (0 ≤ F 48 ∧ F 48 ≤ 24) ∧ (0 ≤ F 49 ∧ F 49 ≤ F 32)) ∧ (∀ k, k < 4 → 0 ≤ op1 k ∧ op1 k ≤ 20) ∧ (∀ k, k < 4 → 0 ≤ mn1 k ∧ mn1 k ≤ 12) ∧ (∀ k, k < 24 → -300 ≤ ai1 k ∧ ai1 k ≤ 100) ∧ (∀ k, k < 24 → (0 ≤ fa1 k ∧ fa1 k ≤ 3) ∧ (0 ≤ mu1 k ∧ mu1 k ≤ 50) ∧ (fa1 k = 1 ∨ fa1 k = 2 → 1 ≤ mu1 k)) ∧ (∀ s l : Nat, (s : Int) < F 47 → (l : Int) < mn1 s → lyT ly1 (84 * s + 7 * l))
theorem okTx.weak {cs : Nat → ClassId} {g : Nat → va_E} {i : Nat} {F : Nat → Int} (h : okTx cs g i F) : okTy cs g i F := by
  obtain ⟨st1, op1, mn1, ai1, fa1, mu1, tb1, ly1, h1, a1, a4, a5, a6, a7, a8, a9⟩ := h
  exact ⟨st1, op1, mn1, ai1, fa1, mu1, tb1, ly1, h1, a1, a4, a5, a6, a7, a9⟩
theorem okTy.mv {cs : Nat → ClassId} {g g' : Nat → va_E} {i : Nat} {F F' : Nat → Int} (h : okTy cs g i F) (hG : ∀ j, i + 16 ≤ j → j ≤ i + 23 → g' j = g j) (hF : F' 47 = F 47 ∧ F' 48 = F 48 ∧ F' 49 = F 49 ∧ F 32 ≤ F' 32) : okTy cs g' i F' := by
  obtain ⟨st1, op1, mn1, ai1, fa1, mu1, tb1, ly1, ⟨h1, h2, h3, h4, h5, h6, h7, h8⟩, ⟨a1, a2, a3⟩, a4, a5, a6, a7, a9⟩ := h
  obtain ⟨f1, f2, f3, f4⟩ := hF
  refine ⟨st1, op1, mn1, ai1, fa1, mu1, tb1, ly1, ⟨by rw [hG _ (by omega) (by omega)]; exact h1, by rw [hG _ (by omega) (by omega)]; exact h2, by rw [hG _ (by omega) (by omega)]; exact h3, by rw [hG _ (by omega) (by omega)]; exact h4, by rw [hG _ (by omega) (by omega)]; exact h5, by rw [hG _ (by omega) (by omega)]; exact h6, by rw [hG _ (by omega) (by omega)]; exact h7, by rw [hG _ (by omega) (by omega)]; exact h8⟩, ⟨by rw [f1]; exact a1, by rw [f2]; exact a2, by rw [f3]; omega⟩, a4, a5, a6, a7, fun s l h => a9 s l (by rw [f1] at h; exact h)⟩
/-- the reference between calls: its fields F, its rows r, what the TEXT told, its tape; x calls were -/
def okMr (cs : Nat → ClassId) (ad : Nat → Nat) (g : Nat → va_E) (i : Nat) (x : Int) (F r st op ai fa mu tb tp : Nat → Int) : Prop := g i = mC ad i F ∧ okF F ∧ RD F ∧ okTy cs g i F ∧ okA r x ∧ ∃ ns nh nd rf pi te ki li ok1 ok2 fo dd dps : Nat → Int, (g (i + 1) = iA cs 29200 r ∧ g (i + 2) = iA cs 4 st ∧ g (i + 3) = iA cs 4 op ∧ g (i + 4) = iA cs 24 ai ∧ g (i + 5) = iA cs 24 fa ∧ g (i + 6) = iA cs 24 mu ∧ g (i + 7) = iA cs 15 tb ∧ g (i + 8) = iA cs 16 ns ∧ g (i + 9) = iA cs 16 nh ∧ g (i + 10) = iA cs 16 nd ∧ g (i + 11) = iA cs 6 rf ∧ g (i + 12) = iA cs 1080 pi ∧ g (i + 13) = iA cs 900 tp ∧ g (i + 14) = iA cs 14 te ∧ g (i + 15) = iA cs 12 ki ∧ g (i + 24) = iA cs 64 li ∧ g (i + 25) = iA cs 12 ok1 ∧ g (i + 26) = iA cs 12 ok2 ∧ g (i + 27) = iA cs 169 fo ∧ g (i + 28) = iA cs 4 dd ∧ g (i + 29) = iA cs 4800 dps) ∧ okEnv F op ai fa mu tb ∧ okPt pi ∧ (∀ k, k < 16 → 0 ≤ ns k ∧ ns k ≤ 3) ∧ (∀ k, k < 900 → 0 ≤ tp k ∧ tp k ≤ 255)
/-- an array that may change, and how -/
def lsP (k : Nat) (t : Nat → Int) : Prop := (k = 9 ∨ k = 10 ∨ k = 11 ∨ k = 14 ∨ k = 15 ∨ (24 ≤ k ∧ k ≤ 29)) ∨ (k = 8 ∧ ∀ n, n < 16 → 0 ≤ t n ∧ t n ≤ 3) ∨ (k = 12 ∧ okPt t)
theorem lsP.l {k : Nat} {t : Nat → Int} (h : k = 9 ∨ k = 10 ∨ k = 11 ∨ k = 14 ∨ k = 15 ∨ (24 ≤ k ∧ k ≤ 29)) : lsP k t := Or.inl h
theorem okMr.arr {cs : Nat → ClassId} {g g' : Nat → va_E} {i n : Nat} (k : Nat) {P : (Nat → Int) → Prop} (h : ∃ t : Nat → Int, g (i + k) = iA cs n t ∧ P t) (hn : mLen k = n) (hG : g' (i + k) = g (i + k) ∨ ∃ (k2 : Nat) (t : Nat → Int), i + k = i + k2 ∧ lsP k2 t ∧ g' (i + k) = iA cs (mLen k2) t) (hP : ∀ t, lsP k t → P t) : ∃ t : Nat → Int, g' (i + k) = iA cs n t ∧ P t := by
  obtain ⟨t, h1, h2⟩ := h
  rcases hG with e | ⟨k2, t2, e1, e2, e3⟩
  · exact ⟨t, by rw [e]; exact h1, h2⟩
  · have e4 : k2 = k := by omega
    subst e4
    exact ⟨t2, by rw [e3, hn], hP t2 e2⟩

theorem okMr.upd {cs : Nat → ClassId} {ad : Nat → Nat} {g g' : Nat → va_E} {i : Nat} {x x' : Int} {F F' r r' st op ai fa mu tb tp : Nat → Int} (h : okMr cs ad g i x F r st op ai fa mu tb tp) (hi : g' i = mC ad i F') (hK : okF F') (hR : ∀ f, (32 ≤ f ∧ f ≤ 38) ∨ (47 ≤ f ∧ f ≤ 49) → F' f = F f) (hr : g' (i + 1) = iA cs 29200 r') (hA : okA r' x') (hG : ∀ j, i + 1 < j → j < i + 30 → g' j = g j ∨ ∃ (k : Nat) (t : Nat → Int), j = i + k ∧ lsP k t ∧ g' j = iA cs (mLen k) t) : okMr cs ad g' i x' F' r' st op ai fa mu tb tp := by
  obtain ⟨h1, h2, h3, h4, h5, ns, nh, nd, rf, pi, te, ki, li, ok1, ok2, fo, dd, dps, ⟨b1, b2, b3, b4, b5, b6, b7, b8, b9, b10, b11, b12, b13, b14, b15, b24, b25, b26, b27, b28, b29⟩, h6, h7, h8, h9⟩ := h
  have hT : ∀ j, i + 16 ≤ j → j ≤ i + 23 → g' j = g j := fun j a b => (hG j (by omega) (by omega)).elim (fun e => e) (fun ⟨k, t, e1, e2, e3⟩ => by
    exfalso
    unfold lsP at e2
    rcases e2 with e2 | ⟨e2, _⟩ | ⟨e2, _⟩ <;> omega)
  have hS : ∀ (k n : Nat) (t : Nat → Int), ((2 ≤ k ∧ k ≤ 7) ∨ k = 13) → g (i + k) = iA cs n t → g' (i + k) = iA cs n t := fun k n t a b => (hG (i + k) (by omega) (by omega)).elim (fun e => by rw [e]; exact b) (fun ⟨k2, t, e1, e2, e3⟩ => by
    exfalso
    unfold lsP at e2
    rcases e2 with e2 | ⟨e2, _⟩ | ⟨e2, _⟩ <;> omega)
  have hL : ∀ k, 1 < k → k < 30 → k ≠ 13 → g' (i + k) = g (i + k) ∨ ∃ (k2 : Nat) (t : Nat → Int), i + k = i + k2 ∧ lsP k2 t ∧ g' (i + k) = iA cs (mLen k2) t := fun k a b c => hG (i + k) (by omega) (by omega)
  have t1 : ∀ k, (k = 9 ∨ k = 10 ∨ k = 11 ∨ k = 14 ∨ k = 15 ∨ (24 ≤ k ∧ k ≤ 29)) → ∀ t : Nat → Int, g (i + k) = iA cs (mLen k) t → ∃ t2 : Nat → Int, g' (i + k) = iA cs (mLen k) t2 := fun k a t b => by
    obtain ⟨t2, e, _⟩ := okMr.arr (P := fun _ => True) k ⟨t, b, trivial⟩ rfl (hL k (by omega) (by omega) (by omega)) (fun _ _ => trivial)
    exact ⟨t2, e⟩
  obtain ⟨u9, v9⟩ := t1 9 (by omega) _ b9
  obtain ⟨u10, v10⟩ := t1 10 (by omega) _ b10
  obtain ⟨u11, v11⟩ := t1 11 (by omega) _ b11
  obtain ⟨u14, v14⟩ := t1 14 (by omega) _ b14
  obtain ⟨u15, v15⟩ := t1 15 (by omega) _ b15
  obtain ⟨u24, v24⟩ := t1 24 (by omega) _ b24
  obtain ⟨u25, v25⟩ := t1 25 (by omega) _ b25
  obtain ⟨u26, v26⟩ := t1 26 (by omega) _ b26
  obtain ⟨u27, v27⟩ := t1 27 (by omega) _ b27
  obtain ⟨u28, v28⟩ := t1 28 (by omega) _ b28
  obtain ⟨u29, v29⟩ := t1 29 (by omega) _ b29
  obtain ⟨u8, v8, w8⟩ := okMr.arr (P := fun t => ∀ k, k < 16 → 0 ≤ t k ∧ t k ≤ 3) 8 ⟨ns, b8, h8⟩ rfl (hL 8 (by omega) (by omega) (by omega)) (fun t e => by
    rcases e with e | ⟨_, e⟩ | ⟨e, _⟩
    · omega
    · exact e
    · omega)
  obtain ⟨u12, v12, w12⟩ := okMr.arr (P := okPt) 12 ⟨pi, b12, h7⟩ rfl (hL 12 (by omega) (by omega) (by omega)) (fun t e => by
    rcases e with e | ⟨e, _⟩ | ⟨_, e⟩
    · omega
    · omega
    · exact e)
  obtain ⟨_, c2, c3, c4, c5, c6⟩ := h6
  refine ⟨hi, hK, ?_, h4.mv (fun j a b => hT j a b) ⟨hR 47 (by omega), hR 48 (by omega), hR 49 (by omega), Int.le_of_eq (hR 32 (by omega)).symm⟩, hA, u8, u9, u10, u11, u12, u14, u15, u24, u25, u26, u27, u28, u29, ⟨hr, hS 2 _ _ (by omega) b2, hS 3 _ _ (by omega) b3, hS 4 _ _ (by omega) b4, hS 5 _ _ (by omega) b5, hS 6 _ _ (by omega) b6, hS 7 _ _ (by omega) b7, v8, v9, v10, v11, v12, hS 13 _ _ (by omega) b13, v14, v15, v24, v25, v26, v27, v28, v29⟩, ⟨hK.1, c2, c3, c4, c5, c6⟩, w12, w8, h9⟩
  unfold RD at *
  rw [hR 32 (by omega), hR 33 (by omega), hR 34 (by omega), hR 35 (by omega), hR 36 (by omega), hR 37 (by omega), hR 38 (by omega)]
  exact h3

theorem okMr.updT {cs : Nat → ClassId} {ad : Nat → Nat} {g g' : Nat → va_E} {i : Nat} {x x' : Int} {F F' r r' st op ai fa mu tb tp tp9 : Nat → Int} (h : okMr cs ad g i x F r st op ai fa mu tb tp) (hi : g' i = mC ad i F') (hK : okF F') (hR : ∀ f, (32 ≤ f ∧ f ≤ 38) ∨ (47 ≤ f ∧ f ≤ 49) → F' f = F f) (hr : g' (i + 1) = iA cs 29200 r') (hA : okA r' x') (hG : ∀ j, i + 1 < j → j < i + 30 → j ≠ i + 13 → g' j = g j ∨ ∃ (k : Nat) (t : Nat → Int), j = i + k ∧ lsP k t ∧ g' j = iA cs (mLen k) t) (ht9 : g' (i + 13) = iA cs 900 tp9) (hr9 : ∀ k, k < 900 → 0 ≤ tp9 k ∧ tp9 k ≤ 255) : okMr cs ad g' i x' F' r' st op ai fa mu tb tp9 := by
  obtain ⟨h1, h2, h3, h4, h5, ns, nh, nd, rf, pi, te, ki, li, ok1, ok2, fo, dd, dps, ⟨b1, b2, b3, b4, b5, b6, b7, b8, b9, b10, b11, b12, b13, b14, b15, b24, b25, b26, b27, b28, b29⟩, h6, h7, h8, h9⟩ := h
  have hT : ∀ j, i + 16 ≤ j → j ≤ i + 23 → g' j = g j := fun j a b => (hG j (by omega) (by omega) (by omega)).elim (fun e => e) (fun ⟨k, t, e1, e2, e3⟩ => by
    exfalso
    unfold lsP at e2
    rcases e2 with e2 | ⟨e2, _⟩ | ⟨e2, _⟩ <;> omega)
  have hS : ∀ (k n : Nat) (t : Nat → Int), ((2 ≤ k ∧ k ≤ 7)) → g (i + k) = iA cs n t → g' (i + k) = iA cs n t := fun k n t a b => (hG (i + k) (by omega) (by omega) (by omega)).elim (fun e => by rw [e]; exact b) (fun ⟨k2, t, e1, e2, e3⟩ => by
    exfalso
    unfold lsP at e2
    rcases e2 with e2 | ⟨e2, _⟩ | ⟨e2, _⟩ <;> omega)
  have hL : ∀ k, 1 < k → k < 30 → k ≠ 13 → g' (i + k) = g (i + k) ∨ ∃ (k2 : Nat) (t : Nat → Int), i + k = i + k2 ∧ lsP k2 t ∧ g' (i + k) = iA cs (mLen k2) t := fun k a b c => hG (i + k) (by omega) (by omega) (by omega)
  have t1 : ∀ k, (k = 9 ∨ k = 10 ∨ k = 11 ∨ k = 14 ∨ k = 15 ∨ (24 ≤ k ∧ k ≤ 29)) → ∀ t : Nat → Int, g (i + k) = iA cs (mLen k) t → ∃ t2 : Nat → Int, g' (i + k) = iA cs (mLen k) t2 := fun k a t b => by
    obtain ⟨t2, e, _⟩ := okMr.arr (P := fun _ => True) k ⟨t, b, trivial⟩ rfl (hL k (by omega) (by omega) (by omega)) (fun _ _ => trivial)
    exact ⟨t2, e⟩
  obtain ⟨u9, v9⟩ := t1 9 (by omega) _ b9
  obtain ⟨u10, v10⟩ := t1 10 (by omega) _ b10
  obtain ⟨u11, v11⟩ := t1 11 (by omega) _ b11
  obtain ⟨u14, v14⟩ := t1 14 (by omega) _ b14
  obtain ⟨u15, v15⟩ := t1 15 (by omega) _ b15
  obtain ⟨u24, v24⟩ := t1 24 (by omega) _ b24
  obtain ⟨u25, v25⟩ := t1 25 (by omega) _ b25
  obtain ⟨u26, v26⟩ := t1 26 (by omega) _ b26
  obtain ⟨u27, v27⟩ := t1 27 (by omega) _ b27
  obtain ⟨u28, v28⟩ := t1 28 (by omega) _ b28
  obtain ⟨u29, v29⟩ := t1 29 (by omega) _ b29
  obtain ⟨u8, v8, w8⟩ := okMr.arr (P := fun t => ∀ k, k < 16 → 0 ≤ t k ∧ t k ≤ 3) 8 ⟨ns, b8, h8⟩ rfl (hL 8 (by omega) (by omega) (by omega)) (fun t e => by
    rcases e with e | ⟨_, e⟩ | ⟨e, _⟩
    · omega
    · exact e
    · omega)
  obtain ⟨u12, v12, w12⟩ := okMr.arr (P := okPt) 12 ⟨pi, b12, h7⟩ rfl (hL 12 (by omega) (by omega) (by omega)) (fun t e => by
    rcases e with e | ⟨e, _⟩ | ⟨_, e⟩
    · omega
    · omega
    · exact e)
  obtain ⟨_, c2, c3, c4, c5, c6⟩ := h6
  refine ⟨hi, hK, ?_, h4.mv (fun j a b => hT j a b) ⟨hR 47 (by omega), hR 48 (by omega), hR 49 (by omega), Int.le_of_eq (hR 32 (by omega)).symm⟩, hA, u8, u9, u10, u11, u12, u14, u15, u24, u25, u26, u27, u28, u29, ⟨hr, hS 2 _ _ (by omega) b2, hS 3 _ _ (by omega) b3, hS 4 _ _ (by omega) b4, hS 5 _ _ (by omega) b5, hS 6 _ _ (by omega) b6, hS 7 _ _ (by omega) b7, v8, v9, v10, v11, v12, ht9, v14, v15, v24, v25, v26, v27, v28, v29⟩, ⟨hK.1, c2, c3, c4, c5, c6⟩, w12, w8, hr9⟩
  unfold RD at *
  rw [hR 32 (by omega), hR 33 (by omega), hR 34 (by omega), hR 35 (by omega), hR 36 (by omega), hR 37 (by omega), hR 38 (by omega)]
  exact h3

theorem okF.mv {F F' : Nat → Int} (h : okF F) (h13 : F' 13 = F 13) (h14 : F' 14 = F 14) (h15 : F' 15 = F 15) (h16 : F' 16 = F 16) (h17 : F' 17 = F 17) (h18 : F' 18 = F 18) (h19 : F' 19 = F 19) (h20 : F' 20 = F 20) (h21 : F' 21 = F 21) (h23 : F' 23 = F 23) (h25 : F' 25 = F 25) (h27 : F' 27 = F 27) (h28 : F' 28 = F 28) (h29 : F' 29 = F 29) : okF F' := by
  unfold okF at *
  rw [h13, h14, h15, h16, h17, h18, h19, h20, h21, h23, h25, h27, h28, h29]
  exact h

set_option maxRecDepth 100000 in
set_option maxHeartbeats 4000000 in
theorem c_X10_allLayers (l : Launch) (D : va_G) (A : Nat → Prop) (cs : Nat → ClassId) (tt : Nat) (N : Nat) (ad : Nat → Nat) (g : Nat → va_E) (i : Nat) (hN : i + 30 ≤ N) (x : Int) (hx : 0 ≤ x ∧ x ≤ 512) (F r : Nat → Int) {st op ai fa mu tb tp : Nat → Int} (hM : okMr cs ad g i x F r st op ai fa mu tb tp) : zM l yX10_allLayers cX10_allLayers 3 (some .int) ({ frames := 5, cells := 0, slots := 0, locals := 300 } : Room) D A cs tt N ad g [.ref (ad i)] (rI0 N ad fun r g' => (-2147483648 ≤ r ∧ r ≤ 2147483647) ∧ g = g') := by
  obtain ⟨hg, ⟨⟨e13, e14, e25, e27, e29⟩, k15, k16, k17, k18, k19, k20, k23, k21⟩, hRD, hTx, hA, ns, nh, nd, rf, pi, te, ki, li, ok1, ok2, fo, dd, dps, ⟨ha1, ha2, ha3, ha4, ha5, ha6, ha7, ha8, ha9, ha10, ha11, ha12, ha13, ha14, ha15, ha24, ha25, ha26, ha27, ha28, ha29⟩, hEv, hPt, hns, htp⟩ := id hM
  obtain ⟨-, hop, hai, hfa, hT, hT1⟩ := id hEv
  have hay1 : zAt ad (i) (ad i) := rfl
  have hay2 : zAt ad (i + 1) (ad (i + 1)) := rfl
  have hay3 : zAt ad (i + 2) (ad (i + 2)) := rfl
  have hay4 : zAt ad (i + 3) (ad (i + 3)) := rfl
  have hay5 : zAt ad (i + 4) (ad (i + 4)) := rfl
  have hay6 : zAt ad (i + 5) (ad (i + 5)) := rfl
  have hay7 : zAt ad (i + 6) (ad (i + 6)) := rfl
  have hay8 : zAt ad (i + 7) (ad (i + 7)) := rfl
  have hay9 : zAt ad (i + 8) (ad (i + 8)) := rfl
  have hay10 : zAt ad (i + 9) (ad (i + 9)) := rfl
  have hay11 : zAt ad (i + 10) (ad (i + 10)) := rfl
  have hay12 : zAt ad (i + 11) (ad (i + 11)) := rfl
  have hay13 : zAt ad (i + 12) (ad (i + 12)) := rfl
  have hay14 : zAt ad (i + 13) (ad (i + 13)) := rfl
  have hay15 : zAt ad (i + 14) (ad (i + 14)) := rfl
  have hay16 : zAt ad (i + 15) (ad (i + 15)) := rfl
  have hay17 : zAt ad (i + 24) (ad (i + 24)) := rfl
  have hay18 : zAt ad (i + 25) (ad (i + 25)) := rfl
  have hay19 : zAt ad (i + 26) (ad (i + 26)) := rfl
  have hay20 : zAt ad (i + 27) (ad (i + 27)) := rfl
  have hay21 : zAt ad (i + 28) (ad (i + 28)) := rfl
  have hay22 : zAt ad (i + 29) (ad (i + 29)) := rfl
  obtain ⟨⟨hsyy23, htyy23, hnyy23, hpyy23⟩, hlyy23⟩ := okA.at0 hA
  simp only [Nat.zero_add] at hsyy23 hnyy23 hpyy23
  have hmn : ∀ s, s < 4 → 0 ≤ r (6 + 86 * s) ∧ r (6 + 86 * s) ≤ 12 := fun s hs => (hsyy23 s hs).1
  have h5 : 0 ≤ r 5 ∧ r 5 ≤ 6 := hpyy23
  refine z_of (by decide) (Nat.le_of_ble_eq_true rfl) ?_
  intro pZ eZ sZ mZ below meth cZ C hr hlk hnm
  refine z_lv (lv' := [(0, .ref (ad i))]) [0] rfl ?_
  have lp : ∀ (n9 : Nat) (al : Int) (ss : Int) (g1 : Nat → va_E), (5 - ss).toNat = n9 → (g1 = g) → (-2147483648 ≤ al ∧ al ≤ 2147483647) → (0 ≤ ss ∧ ss ≤ F 13) → zV pZ l eZ ({ frames := 5, cells := 0, slots := 0, locals := 300 } : Room) sZ mZ ([.ref (ad i)] : List Value).toArray below meth cZ (MQ below (zPost D A (rI0 N ad fun r g' => (-2147483648 ≤ r ∧ r ≤ 2147483647) ∧ g = g')) ([.ref (ad i)] : List Value).toArray sZ ({ frames := 5, cells := 0, slots := 0, locals := 300 } : Room).cells ({ frames := 5, cells := 0, slots := 0, locals := 300 } : Room).slots A) D A 3 (N) ad g1 (0) (0) 4 [(0, .ref (ad i)), (1, .int (zI (al))), (2, .int (zI (ss)))] [] := by
    intro n9
    induction n9 using Nat.strongRecOn with
    | ind n9 ih =>
      intro al ss g1 hm9 hg1 hv0 hv1
      subst hg1
      refine z_iload_n C 2 dX10_allLayers_4 rfl ?_
      refine z_aload_n C 0 dX10_allLayers_5 rfl ?_
      refine z_get (v := .int (zI (F 13))) C (lt_A0 hN rfl) hay1 hg rfl inA_X10 13 (by decide) q_1472 rfl (fv (F := F) (f := 13) rfl) dX10_allLayers_6 ?_
      refine z_icmp_ge (tgt := 27) C dX10_allLayers_9 (by decide) (by omega) (by omega) (fun hby24 => ?_) (fun hby24 => ?_)
      · refine z_iload_n C 1 dX10_allLayers_27 rfl ?_
        exact z_iret C hr hlk dX10_allLayers_28 (by decide) (by decide) ⟨al, rfl, rfl, rfl, by omega, rfl⟩
      · refine z_iload_n C 1 dX10_allLayers_12 rfl ?_
        refine z_aload_n C 0 dX10_allLayers_13 rfl ?_
        refine z_iconst (z := 0) C dX10_allLayers_14 rfl ?_
        refine z_iload_n C 2 dX10_allLayers_15 rfl ?_
        obtain ⟨ny25, hny25⟩ : ∃ n9 : Nat, ss = (n9 : Int) := ⟨(ss).toNat, by omega⟩
        rw [hny25]
        obtain ⟨py26, hpy26⟩ : ∃ p9 : Nat, 0 + 6 + 86 * ny25 = p9 := ⟨_, rfl⟩
        have hmyy27 := ((okA.at0 hA).1.1 ny25 (by omega)).1
        rw [hpy26] at hmyy27
        refine z_cV (As := [.int (zI (0)), .int (zI ((ny25 : Int)))]) (rest := [.int (zI (al))]) (ci := 12) C (c_X10_many l D A cs tt N ad _ i hN _ hg _ ha1 0 ny25 py26 hpy26 (by omega) (by omega)) (lt_A0 hN rfl) hay1 hg rfl rfl mv_yX10_many q_1733 hd_yX10_many (by decide) (Nat.le_of_ble_eq_true rfl) (by decide) dX10_allLayers_16 rfl (kI0 fun vy28 gvy28 hvy28 => ?_)
        obtain ⟨rfl, rfl⟩ := hvy28
        refine z_iadd C dX10_allLayers_19 ?_
        refine z_istore_n (lv' := [(1, .int (zI (al + (r (py26))))), (0, .ref (ad i)), (2, .int (zI ((ny25 : Int))))]) C dX10_allLayers_20 rfl (by decide) rfl ?_
        refine z_iinc (z := (ny25 : Int) + 1) (lv' := [(2, .int (zI ((ny25 : Int) + 1))), (1, .int (zI (al + (r (py26))))), (0, .ref (ad i))]) (j := 2) C dX10_allLayers_21 rfl rfl (by decide) rfl ?_
        refine z_goto (tgt := 4) C dX10_allLayers_24 (by decide) ?_
        obtain ⟨xy29, exy30, hxy31⟩ := zI_of (zI (al + (r (py26))))
        rw [exy30]
        refine z_lv (lv' := [(0, .ref (ad i)), (1, .int (zI (xy29))), (2, .int (zI ((ny25 : Int) + 1)))]) [2, 1, 0] rfl ?_
        exact ih _ (by omega) (xy29) ((ny25 : Int) + 1) _ rfl rfl (by omega) (by omega)
  refine z_iconst (z := 0) C dX10_allLayers_0 rfl ?_
  refine z_istore_n (lv' := [(1, .int (zI (0))), (0, .ref (ad i))]) C dX10_allLayers_1 rfl (by decide) rfl ?_
  refine z_iconst (z := 0) C dX10_allLayers_2 rfl ?_
  refine z_istore_n (lv' := [(2, .int (zI (0))), (1, .int (zI (0))), (0, .ref (ad i))]) C dX10_allLayers_3 rfl (by decide) rfl ?_
  refine z_lv (lv' := [(0, .ref (ad i)), (1, .int (zI (0))), (2, .int (zI (0)))]) [2, 1, 0] rfl ?_
  exact lp _ (0) (0) _ rfl rfl (by omega) (by omega)

set_option maxRecDepth 100000 in
set_option maxHeartbeats 4000000 in
theorem c_X10_allWeight (l : Launch) (D : va_G) (A : Nat → Prop) (cs : Nat → ClassId) (tt : Nat) (N : Nat) (ad : Nat → Nat) (g : Nat → va_E) (i : Nat) (hN : i + 30 ≤ N) (x : Int) (hx : 0 ≤ x ∧ x ≤ 512) (F r : Nat → Int) {st op ai fa mu tb tp : Nat → Int} (hM : okMr cs ad g i x F r st op ai fa mu tb tp) : zM l yX10_allWeight cX10_allWeight 3 (some .int) ({ frames := 5, cells := 0, slots := 0, locals := 300 } : Room) D A cs tt N ad g [.ref (ad i)] (rI0 N ad fun r g' => (-2147483648 ≤ r ∧ r ≤ 2147483647) ∧ g = g') := by
  obtain ⟨hg, ⟨⟨e13, e14, e25, e27, e29⟩, k15, k16, k17, k18, k19, k20, k23, k21⟩, hRD, hTx, hA, ns, nh, nd, rf, pi, te, ki, li, ok1, ok2, fo, dd, dps, ⟨ha1, ha2, ha3, ha4, ha5, ha6, ha7, ha8, ha9, ha10, ha11, ha12, ha13, ha14, ha15, ha24, ha25, ha26, ha27, ha28, ha29⟩, hEv, hPt, hns, htp⟩ := id hM
  obtain ⟨-, hop, hai, hfa, hT, hT1⟩ := id hEv
  have hay1 : zAt ad (i) (ad i) := rfl
  have hay2 : zAt ad (i + 1) (ad (i + 1)) := rfl
  have hay3 : zAt ad (i + 2) (ad (i + 2)) := rfl
  have hay4 : zAt ad (i + 3) (ad (i + 3)) := rfl
  have hay5 : zAt ad (i + 4) (ad (i + 4)) := rfl
  have hay6 : zAt ad (i + 5) (ad (i + 5)) := rfl
  have hay7 : zAt ad (i + 6) (ad (i + 6)) := rfl
  have hay8 : zAt ad (i + 7) (ad (i + 7)) := rfl
  have hay9 : zAt ad (i + 8) (ad (i + 8)) := rfl
  have hay10 : zAt ad (i + 9) (ad (i + 9)) := rfl
  have hay11 : zAt ad (i + 10) (ad (i + 10)) := rfl
  have hay12 : zAt ad (i + 11) (ad (i + 11)) := rfl
  have hay13 : zAt ad (i + 12) (ad (i + 12)) := rfl
  have hay14 : zAt ad (i + 13) (ad (i + 13)) := rfl
  have hay15 : zAt ad (i + 14) (ad (i + 14)) := rfl
  have hay16 : zAt ad (i + 15) (ad (i + 15)) := rfl
  have hay17 : zAt ad (i + 24) (ad (i + 24)) := rfl
  have hay18 : zAt ad (i + 25) (ad (i + 25)) := rfl
  have hay19 : zAt ad (i + 26) (ad (i + 26)) := rfl
  have hay20 : zAt ad (i + 27) (ad (i + 27)) := rfl
  have hay21 : zAt ad (i + 28) (ad (i + 28)) := rfl
  have hay22 : zAt ad (i + 29) (ad (i + 29)) := rfl
  obtain ⟨⟨hsyy23, htyy23, hnyy23, hpyy23⟩, hlyy23⟩ := okA.at0 hA
  simp only [Nat.zero_add] at hsyy23 hnyy23 hpyy23
  have hmn : ∀ s, s < 4 → 0 ≤ r (6 + 86 * s) ∧ r (6 + 86 * s) ≤ 12 := fun s hs => (hsyy23 s hs).1
  have h5 : 0 ≤ r 5 ∧ r 5 ≤ 6 := hpyy23
  refine z_of (by decide) (Nat.le_of_ble_eq_true rfl) ?_
  intro pZ eZ sZ mZ below meth cZ C hr hlk hnm
  refine z_lv (lv' := [(0, .ref (ad i))]) [0] rfl ?_
  have lp : ∀ (n9 : Nat) (al : Int) (ss : Int) (g1 : Nat → va_E), (5 - ss).toNat = n9 → (g1 = g) → (-2147483648 ≤ al ∧ al ≤ 2147483647) → (0 ≤ ss ∧ ss ≤ F 13) → zV pZ l eZ ({ frames := 5, cells := 0, slots := 0, locals := 300 } : Room) sZ mZ ([.ref (ad i)] : List Value).toArray below meth cZ (MQ below (zPost D A (rI0 N ad fun r g' => (-2147483648 ≤ r ∧ r ≤ 2147483647) ∧ g = g')) ([.ref (ad i)] : List Value).toArray sZ ({ frames := 5, cells := 0, slots := 0, locals := 300 } : Room).cells ({ frames := 5, cells := 0, slots := 0, locals := 300 } : Room).slots A) D A 3 (N) ad g1 (0) (0) 4 [(0, .ref (ad i)), (1, .int (zI (al))), (2, .int (zI (ss)))] [] := by
    intro n9
    induction n9 using Nat.strongRecOn with
    | ind n9 ih =>
      intro al ss g1 hm9 hg1 hv0 hv1
      subst hg1
      refine z_iload_n C 2 dX10_allWeight_4 rfl ?_
      refine z_aload_n C 0 dX10_allWeight_5 rfl ?_
      refine z_get (v := .int (zI (F 13))) C (lt_A0 hN rfl) hay1 hg rfl inA_X10 13 (by decide) q_1472 rfl (fv (F := F) (f := 13) rfl) dX10_allWeight_6 ?_
      refine z_icmp_ge (tgt := 36) C dX10_allWeight_9 (by decide) (by omega) (by omega) (fun hby24 => ?_) (fun hby24 => ?_)
      · refine z_iload_n C 1 dX10_allWeight_36 rfl ?_
        exact z_iret C hr hlk dX10_allWeight_37 (by decide) (by decide) ⟨al, rfl, rfl, rfl, by omega, rfl⟩
      · refine z_iload_n C 1 dX10_allWeight_12 rfl ?_
        refine z_aload_n C 0 dX10_allWeight_13 rfl ?_
        refine z_iconst (z := 0) C dX10_allWeight_14 rfl ?_
        refine z_iload_n C 2 dX10_allWeight_15 rfl ?_
        refine z_iconst (z := 1) C dX10_allWeight_16 rfl ?_
        obtain ⟨ny25, hny25⟩ : ∃ n9 : Nat, ss = (n9 : Int) := ⟨(ss).toNat, by omega⟩
        rw [hny25]
        obtain ⟨py26, hpy26⟩ : ∃ p9 : Nat, 0 + 6 + 86 * ny25 = p9 := ⟨_, rfl⟩
        have hqy28 : qS r py26 := (((okA.at0 hA).1.1 ny25 (by omega)).of (p2 := py26) (by omega)).q (by have hb9 := mBb (t := r 0 + x) (by omega); omega)
        have hmky29 := hqy28.1
        refine z_cV (As := [.int (zI (0)), .int (zI ((ny25 : Int))), .int (zI (1))]) (rest := [.int (zI (al))]) (ci := 12) C (c_X10_sumA l D A cs tt N ad _ i hN _ hg _ ha1 0 ny25 py26 hpy26 (by omega) (by omega) hqy28 1 (by omega)) (lt_A0 hN rfl) hay1 hg rfl rfl mv_yX10_sum q_1745 hd_yX10_sum (by decide) (Nat.le_of_ble_eq_true rfl) (by decide) dX10_allWeight_17 rfl (kI0 fun vy27 gvy27 hvy27 => ?_)
        obtain ⟨hvy27, rfl⟩ := hvy27
        refine z_aload_n C 0 dX10_allWeight_20 rfl ?_
        refine z_iconst (z := 0) C dX10_allWeight_21 rfl ?_
        refine z_iload_n C 2 dX10_allWeight_22 rfl ?_
        refine z_iconst (z := 2) C dX10_allWeight_23 rfl ?_
        have hqy31 : qS r py26 := (((okA.at0 hA).1.1 ny25 (by omega)).of (p2 := py26) (by omega)).q (by have hb9 := mBb (t := r 0 + x) (by omega); omega)
        have hmky32 := hqy31.1
        refine z_cV (As := [.int (zI (0)), .int (zI ((ny25 : Int))), .int (zI (2))]) (rest := [.int (zI (vy27)), .int (zI (al))]) (ci := 12) C (c_X10_sumA l D A cs tt N ad _ i hN _ hg _ ha1 0 ny25 py26 hpy26 (by omega) (by omega) hqy31 2 (by omega)) (lt_A0 hN rfl) hay1 hg rfl rfl mv_yX10_sum q_1745 hd_yX10_sum (by decide) (Nat.le_of_ble_eq_true rfl) (by decide) dX10_allWeight_24 rfl (kI0 fun vy30 gvy30 hvy30 => ?_)
        obtain ⟨hvy30, rfl⟩ := hvy30
        refine z_iadd C dX10_allWeight_27 ?_
        refine z_iadd C dX10_allWeight_28 ?_
        refine z_istore_n (lv' := [(1, .int (zI (al + (vy27 + vy30)))), (0, .ref (ad i)), (2, .int (zI ((ny25 : Int))))]) C dX10_allWeight_29 rfl (by decide) rfl ?_
        refine z_iinc (z := (ny25 : Int) + 1) (lv' := [(2, .int (zI ((ny25 : Int) + 1))), (1, .int (zI (al + (vy27 + vy30)))), (0, .ref (ad i))]) (j := 2) C dX10_allWeight_30 rfl rfl (by decide) rfl ?_
        refine z_goto (tgt := 4) C dX10_allWeight_33 (by decide) ?_
        obtain ⟨xy33, exy34, hxy35⟩ := zI_of (zI (al + (vy27 + vy30)))
        rw [exy34]
        refine z_lv (lv' := [(0, .ref (ad i)), (1, .int (zI (xy33))), (2, .int (zI ((ny25 : Int) + 1)))]) [2, 1, 0] rfl ?_
        exact ih _ (by omega) (xy33) ((ny25 : Int) + 1) _ rfl rfl (by omega) (by omega)
  refine z_iconst (z := 0) C dX10_allWeight_0 rfl ?_
  refine z_istore_n (lv' := [(1, .int (zI (0))), (0, .ref (ad i))]) C dX10_allWeight_1 rfl (by decide) rfl ?_
  refine z_iconst (z := 0) C dX10_allWeight_2 rfl ?_
  refine z_istore_n (lv' := [(2, .int (zI (0))), (1, .int (zI (0))), (0, .ref (ad i))]) C dX10_allWeight_3 rfl (by decide) rfl ?_
  refine z_lv (lv' := [(0, .ref (ad i)), (1, .int (zI (0))), (2, .int (zI (0)))]) [2, 1, 0] rfl ?_
  exact lp _ (0) (0) _ rfl rfl (by omega) (by omega)

set_option maxRecDepth 100000 in
set_option maxHeartbeats 4000000 in
theorem c_X10_allRunoff (l : Launch) (D : va_G) (A : Nat → Prop) (cs : Nat → ClassId) (tt : Nat) (N : Nat) (ad : Nat → Nat) (g : Nat → va_E) (i : Nat) (hN : i + 30 ≤ N) (x : Int) (hx : 0 ≤ x ∧ x ≤ 512) (F r : Nat → Int) {st op ai fa mu tb tp : Nat → Int} (hM : okMr cs ad g i x F r st op ai fa mu tb tp) : zM l yX10_allRunoff cX10_allRunoff 3 (some .int) ({ frames := 2, cells := 0, slots := 0, locals := 120 } : Room) D A cs tt N ad g [.ref (ad i)] (rI0 N ad fun r g' => (-2147483648 ≤ r ∧ r ≤ 2147483647) ∧ g = g') := by
  obtain ⟨hg, ⟨⟨e13, e14, e25, e27, e29⟩, k15, k16, k17, k18, k19, k20, k23, k21⟩, hRD, hTx, hA, ns, nh, nd, rf, pi, te, ki, li, ok1, ok2, fo, dd, dps, ⟨ha1, ha2, ha3, ha4, ha5, ha6, ha7, ha8, ha9, ha10, ha11, ha12, ha13, ha14, ha15, ha24, ha25, ha26, ha27, ha28, ha29⟩, hEv, hPt, hns, htp⟩ := id hM
  obtain ⟨-, hop, hai, hfa, hT, hT1⟩ := id hEv
  have hay1 : zAt ad (i) (ad i) := rfl
  have hay2 : zAt ad (i + 1) (ad (i + 1)) := rfl
  have hay3 : zAt ad (i + 2) (ad (i + 2)) := rfl
  have hay4 : zAt ad (i + 3) (ad (i + 3)) := rfl
  have hay5 : zAt ad (i + 4) (ad (i + 4)) := rfl
  have hay6 : zAt ad (i + 5) (ad (i + 5)) := rfl
  have hay7 : zAt ad (i + 6) (ad (i + 6)) := rfl
  have hay8 : zAt ad (i + 7) (ad (i + 7)) := rfl
  have hay9 : zAt ad (i + 8) (ad (i + 8)) := rfl
  have hay10 : zAt ad (i + 9) (ad (i + 9)) := rfl
  have hay11 : zAt ad (i + 10) (ad (i + 10)) := rfl
  have hay12 : zAt ad (i + 11) (ad (i + 11)) := rfl
  have hay13 : zAt ad (i + 12) (ad (i + 12)) := rfl
  have hay14 : zAt ad (i + 13) (ad (i + 13)) := rfl
  have hay15 : zAt ad (i + 14) (ad (i + 14)) := rfl
  have hay16 : zAt ad (i + 15) (ad (i + 15)) := rfl
  have hay17 : zAt ad (i + 24) (ad (i + 24)) := rfl
  have hay18 : zAt ad (i + 25) (ad (i + 25)) := rfl
  have hay19 : zAt ad (i + 26) (ad (i + 26)) := rfl
  have hay20 : zAt ad (i + 27) (ad (i + 27)) := rfl
  have hay21 : zAt ad (i + 28) (ad (i + 28)) := rfl
  have hay22 : zAt ad (i + 29) (ad (i + 29)) := rfl
  obtain ⟨⟨hsyy23, htyy23, hnyy23, hpyy23⟩, hlyy23⟩ := okA.at0 hA
  simp only [Nat.zero_add] at hsyy23 hnyy23 hpyy23
  have hmn : ∀ s, s < 4 → 0 ≤ r (6 + 86 * s) ∧ r (6 + 86 * s) ≤ 12 := fun s hs => (hsyy23 s hs).1
  have h5 : 0 ≤ r 5 ∧ r 5 ≤ 6 := hpyy23
  refine z_of (by decide) (Nat.le_of_ble_eq_true rfl) ?_
  intro pZ eZ sZ mZ below meth cZ C hr hlk hnm
  refine z_lv (lv' := [(0, .ref (ad i))]) [0] rfl ?_
  have lp : ∀ (n9 : Nat) (al : Int) (ss : Int) (g1 : Nat → va_E), (5 - ss).toNat = n9 → (g1 = g) → (-2147483648 ≤ al ∧ al ≤ 2147483647) → (0 ≤ ss ∧ ss ≤ F 13) → zV pZ l eZ ({ frames := 2, cells := 0, slots := 0, locals := 120 } : Room) sZ mZ ([.ref (ad i)] : List Value).toArray below meth cZ (MQ below (zPost D A (rI0 N ad fun r g' => (-2147483648 ≤ r ∧ r ≤ 2147483647) ∧ g = g')) ([.ref (ad i)] : List Value).toArray sZ ({ frames := 2, cells := 0, slots := 0, locals := 120 } : Room).cells ({ frames := 2, cells := 0, slots := 0, locals := 120 } : Room).slots A) D A 3 (N) ad g1 (0) (0) 4 [(0, .ref (ad i)), (1, .int (zI (al))), (2, .int (zI (ss)))] [] := by
    intro n9
    induction n9 using Nat.strongRecOn with
    | ind n9 ih =>
      intro al ss g1 hm9 hg1 hv0 hv1
      subst hg1
      refine z_iload_n C 2 dX10_allRunoff_4 rfl ?_
      refine z_aload_n C 0 dX10_allRunoff_5 rfl ?_
      refine z_get (v := .int (zI (F 13))) C (lt_A0 hN rfl) hay1 hg rfl inA_X10 13 (by decide) q_1472 rfl (fv (F := F) (f := 13) rfl) dX10_allRunoff_6 ?_
      refine z_icmp_ge (tgt := 35) C dX10_allRunoff_9 (by decide) (by omega) (by omega) (fun hby24 => ?_) (fun hby24 => ?_)
      · refine z_iload_n C 1 dX10_allRunoff_35 rfl ?_
        exact z_iret C hr hlk dX10_allRunoff_36 (by decide) (by decide) ⟨al, rfl, rfl, rfl, by omega, rfl⟩
      · refine z_iload_n C 1 dX10_allRunoff_12 rfl ?_
        refine z_aload_n C 0 dX10_allRunoff_13 rfl ?_
        refine z_get (v := .ref (ad (i + 1))) C (lt_A0 hN rfl) hay1 hg rfl inA_X10 0 (by decide) q_1459 rfl rfl dX10_allRunoff_14 ?_
        refine z_bipush (z := 6) C dX10_allRunoff_17 (by decide) ?_
        refine z_bipush (z := 86) C dX10_allRunoff_19 (by decide) ?_
        refine z_iload_n C 2 dX10_allRunoff_21 rfl ?_
        refine z_imul C dX10_allRunoff_22 ?_
        refine z_iadd C dX10_allRunoff_23 ?_
        refine z_iconst (z := 1) C dX10_allRunoff_24 rfl ?_
        refine z_iadd C dX10_allRunoff_25 ?_
        refine z_iald C (lt_A (c := 1) hN rfl) hay2 ha1 (((6 + (86 * ss)) + 1).toNat) (by omega) (by omega) (by decide) dX10_allRunoff_26 ?_
        refine z_iadd C dX10_allRunoff_27 ?_
        refine z_istore_n (lv' := [(1, .int (zI (al + (r (((6 + (86 * ss)) + 1).toNat))))), (0, .ref (ad i)), (2, .int (zI (ss)))]) C dX10_allRunoff_28 rfl (by decide) rfl ?_
        refine z_iinc (z := ss + 1) (lv' := [(2, .int (zI (ss + 1))), (1, .int (zI (al + (r (((6 + (86 * ss)) + 1).toNat))))), (0, .ref (ad i))]) (j := 2) C dX10_allRunoff_29 rfl rfl (by decide) rfl ?_
        refine z_goto (tgt := 4) C dX10_allRunoff_32 (by decide) ?_
        obtain ⟨xy25, exy26, hxy27⟩ := zI_of (zI (al + (r (((6 + (86 * ss)) + 1).toNat))))
        rw [exy26]
        refine z_lv (lv' := [(0, .ref (ad i)), (1, .int (zI (xy25))), (2, .int (zI (ss + 1)))]) [2, 1, 0] rfl ?_
        exact ih _ (by omega) (xy25) (ss + 1) _ rfl rfl (by omega) (by omega)
  refine z_iconst (z := 0) C dX10_allRunoff_0 rfl ?_
  refine z_istore_n (lv' := [(1, .int (zI (0))), (0, .ref (ad i))]) C dX10_allRunoff_1 rfl (by decide) rfl ?_
  refine z_iconst (z := 0) C dX10_allRunoff_2 rfl ?_
  refine z_istore_n (lv' := [(2, .int (zI (0))), (1, .int (zI (0))), (0, .ref (ad i))]) C dX10_allRunoff_3 rfl (by decide) rfl ?_
  refine z_lv (lv' := [(0, .ref (ad i)), (1, .int (zI (0))), (2, .int (zI (0)))]) [2, 1, 0] rfl ?_
  exact lp _ (0) (0) _ rfl rfl (by omega) (by omega)

set_option maxRecDepth 100000 in
set_option maxHeartbeats 4000000 in
theorem c_X10_worst (l : Launch) (D : va_G) (A : Nat → Prop) (cs : Nat → ClassId) (tt : Nat) (N : Nat) (ad : Nat → Nat) (g : Nat → va_E) (i : Nat) (hN : i + 30 ≤ N) (x : Int) (hx : 0 ≤ x ∧ x ≤ 512) (F r : Nat → Int) {st op ai fa mu tb tp : Nat → Int} (hM : okMr cs ad g i x F r st op ai fa mu tb tp) : zM l yX10_worst cX10_worst 3 (some .int) ({ frames := 11, cells := 0, slots := 0, locals := 660 } : Room) D A cs tt N ad g [.ref (ad i)] (rI0 N ad fun q g' => (-1 ≤ q ∧ q ≤ 3) ∧ g = g') := by
  obtain ⟨hg, ⟨⟨e13, e14, e25, e27, e29⟩, k15, k16, k17, k18, k19, k20, k23, k21⟩, hRD, hTx, hA, ns, nh, nd, rf, pi, te, ki, li, ok1, ok2, fo, dd, dps, ⟨ha1, ha2, ha3, ha4, ha5, ha6, ha7, ha8, ha9, ha10, ha11, ha12, ha13, ha14, ha15, ha24, ha25, ha26, ha27, ha28, ha29⟩, hEv, hPt, hns, htp⟩ := id hM
  obtain ⟨-, hop, hai, hfa, hT, hT1⟩ := id hEv
  have hay1 : zAt ad (i) (ad i) := rfl
  have hay2 : zAt ad (i + 1) (ad (i + 1)) := rfl
  have hay3 : zAt ad (i + 2) (ad (i + 2)) := rfl
  have hay4 : zAt ad (i + 3) (ad (i + 3)) := rfl
  have hay5 : zAt ad (i + 4) (ad (i + 4)) := rfl
  have hay6 : zAt ad (i + 5) (ad (i + 5)) := rfl
  have hay7 : zAt ad (i + 6) (ad (i + 6)) := rfl
  have hay8 : zAt ad (i + 7) (ad (i + 7)) := rfl
  have hay9 : zAt ad (i + 8) (ad (i + 8)) := rfl
  have hay10 : zAt ad (i + 9) (ad (i + 9)) := rfl
  have hay11 : zAt ad (i + 10) (ad (i + 10)) := rfl
  have hay12 : zAt ad (i + 11) (ad (i + 11)) := rfl
  have hay13 : zAt ad (i + 12) (ad (i + 12)) := rfl
  have hay14 : zAt ad (i + 13) (ad (i + 13)) := rfl
  have hay15 : zAt ad (i + 14) (ad (i + 14)) := rfl
  have hay16 : zAt ad (i + 15) (ad (i + 15)) := rfl
  have hay17 : zAt ad (i + 24) (ad (i + 24)) := rfl
  have hay18 : zAt ad (i + 25) (ad (i + 25)) := rfl
  have hay19 : zAt ad (i + 26) (ad (i + 26)) := rfl
  have hay20 : zAt ad (i + 27) (ad (i + 27)) := rfl
  have hay21 : zAt ad (i + 28) (ad (i + 28)) := rfl
  have hay22 : zAt ad (i + 29) (ad (i + 29)) := rfl
  obtain ⟨⟨hsyy23, htyy23, hnyy23, hpyy23⟩, hlyy23⟩ := okA.at0 hA
  simp only [Nat.zero_add] at hsyy23 hnyy23 hpyy23
  have hmn : ∀ s, s < 4 → 0 ≤ r (6 + 86 * s) ∧ r (6 + 86 * s) ≤ 12 := fun s hs => (hsyy23 s hs).1
  have h5 : 0 ≤ r 5 ∧ r 5 ≤ 6 := hpyy23
  refine z_of (by decide) (Nat.le_of_ble_eq_true rfl) ?_
  intro pZ eZ sZ mZ below meth cZ C hr hlk hnm
  refine z_lv (lv' := [(0, .ref (ad i))]) [0] rfl ?_
  have lp : ∀ (n9 : Nat) (wh : Int) (ss : Int) (g1 : Nat → va_E), (5 - ss).toNat = n9 → (g1 = g) → (-1 ≤ wh ∧ wh < F 13) → (0 ≤ ss ∧ ss ≤ F 13) → zV pZ l eZ ({ frames := 11, cells := 0, slots := 0, locals := 660 } : Room) sZ mZ ([.ref (ad i)] : List Value).toArray below meth cZ (MQ below (zPost D A (rI0 N ad fun q g' => (-1 ≤ q ∧ q ≤ 3) ∧ g = g')) ([.ref (ad i)] : List Value).toArray sZ ({ frames := 11, cells := 0, slots := 0, locals := 660 } : Room).cells ({ frames := 11, cells := 0, slots := 0, locals := 660 } : Room).slots A) D A 3 (N) ad g1 (0) (0) 4 [(0, .ref (ad i)), (1, .int (zI (wh))), (2, .int (zI (ss)))] [] := by
    intro n9
    induction n9 using Nat.strongRecOn with
    | ind n9 ih =>
      intro wh ss g1 hm9 hg1 hv0 hv1
      subst hg1
      refine z_iload_n C 2 dX10_worst_4 rfl ?_
      refine z_aload_n C 0 dX10_worst_5 rfl ?_
      refine z_get (v := .int (zI (F 13))) C (lt_A0 hN rfl) hay1 hg rfl inA_X10 13 (by decide) q_1472 rfl (fv (F := F) (f := 13) rfl) dX10_worst_6 ?_
      refine z_icmp_ge (tgt := 40) C dX10_worst_9 (by decide) (by omega) (by omega) (fun hby24 => ?_) (fun hby24 => ?_)
      · refine z_iload_n C 1 dX10_worst_40 rfl ?_
        exact z_iret C hr hlk dX10_worst_41 (by decide) (by decide) ⟨wh, rfl, rfl, rfl, by omega, rfl⟩
      · refine z_iload_n C 1 dX10_worst_12 rfl ?_
        refine z_iconst (z := -1) C dX10_worst_13 rfl ?_
        refine z_icmp_eq (tgt := 32) C dX10_worst_14 (by decide) (by omega) (by omega) (fun hby25 => ?_) (fun hby25 => ?_)
        · refine z_iload_n C 2 dX10_worst_32 rfl ?_
          refine z_istore_n (lv' := [(1, .int (zI (ss))), (0, .ref (ad i)), (2, .int (zI (ss)))]) C dX10_worst_33 rfl (by decide) rfl ?_
          refine z_iinc (z := ss + 1) (lv' := [(2, .int (zI (ss + 1))), (1, .int (zI (ss))), (0, .ref (ad i))]) (j := 2) C dX10_worst_34 rfl rfl (by decide) rfl ?_
          refine z_goto (tgt := 4) C dX10_worst_37 (by decide) ?_
          refine z_lv (lv' := [(0, .ref (ad i)), (1, .int (zI (ss))), (2, .int (zI (ss + 1)))]) [2, 1, 0] rfl ?_
          exact ih _ (by omega) (ss) (ss + 1) _ rfl rfl (by omega) (by omega)
        · refine z_aload_n C 0 dX10_worst_17 rfl ?_
          refine z_iconst (z := 0) C dX10_worst_18 rfl ?_
          refine z_iload_n C 2 dX10_worst_19 rfl ?_
          obtain ⟨ny26, hny26⟩ : ∃ n9 : Nat, ss = (n9 : Int) := ⟨(ss).toNat, by omega⟩
          rw [hny26]
          obtain ⟨py27, hpy27⟩ : ∃ p9 : Nat, 0 + 6 + 86 * ny26 = p9 := ⟨_, rfl⟩
          have hqy29 : qS r py27 := (((okA.at0 hA).1.1 ny26 (by omega)).of (p2 := py27) (by omega)).q (by have hb9 := mBb (t := r 0 + x) (by omega); omega)
          have hmky30 := hqy29.1
          refine z_cV (As := [.int (zI (0)), .int (zI ((ny26 : Int)))]) (rest := []) (ci := 12) C (c_X10_leastRatio l D A cs tt N ad _ i hN _ hg _ ha1 _ ha2 _ ha7 0 ny26 py27 hpy27 (by omega) (by omega) hqy29) (lt_A0 hN rfl) hay1 hg rfl rfl mv_yX10_leastRatio q_1760 hd_yX10_leastRatio (by decide) (Nat.le_of_ble_eq_true rfl) (by decide) dX10_worst_20 rfl (kI0 fun vy28 gvy28 hvy28 => ?_)
          obtain ⟨hvy28, rfl⟩ := hvy28
          refine z_aload_n C 0 dX10_worst_23 rfl ?_
          refine z_iconst (z := 0) C dX10_worst_24 rfl ?_
          refine z_iload_n C 1 dX10_worst_25 rfl ?_
          obtain ⟨ny31, hny31⟩ : ∃ n9 : Nat, wh = (n9 : Int) := ⟨(wh).toNat, by omega⟩
          rw [hny31]
          obtain ⟨py32, hpy32⟩ : ∃ p9 : Nat, 0 + 6 + 86 * ny31 = p9 := ⟨_, rfl⟩
          have hqy34 : qS r py32 := (((okA.at0 hA).1.1 ny31 (by omega)).of (p2 := py32) (by omega)).q (by have hb9 := mBb (t := r 0 + x) (by omega); omega)
          have hmky35 := hqy34.1
          refine z_cV (As := [.int (zI (0)), .int (zI ((ny31 : Int)))]) (rest := [.int (zI (vy28))]) (ci := 12) C (c_X10_leastRatio l D A cs tt N ad _ i hN _ hg _ ha1 _ ha2 _ ha7 0 ny31 py32 hpy32 (by omega) (by omega) hqy34) (lt_A0 hN rfl) hay1 hg rfl rfl mv_yX10_leastRatio q_1760 hd_yX10_leastRatio (by decide) (Nat.le_of_ble_eq_true rfl) (by decide) dX10_worst_26 rfl (kI0 fun vy33 gvy33 hvy33 => ?_)
          obtain ⟨hvy33, rfl⟩ := hvy33
          refine z_icmp_ge (tgt := 34) C dX10_worst_29 (by decide) (by omega) (by omega) (fun hby36 => ?_) (fun hby36 => ?_)
          · refine z_iinc (z := (ny26 : Int) + 1) (lv' := [(2, .int (zI ((ny26 : Int) + 1))), (0, .ref (ad i)), (1, .int (zI ((ny31 : Int))))]) (j := 2) C dX10_worst_34 rfl rfl (by decide) rfl ?_
            refine z_goto (tgt := 4) C dX10_worst_37 (by decide) ?_
            refine z_lv (lv' := [(0, .ref (ad i)), (1, .int (zI ((ny31 : Int)))), (2, .int (zI ((ny26 : Int) + 1)))]) [1, 2, 0] rfl ?_
            exact ih _ (by omega) ((ny31 : Int)) ((ny26 : Int) + 1) _ rfl rfl (by omega) (by omega)
          · refine z_iload_n C 2 dX10_worst_32 rfl ?_
            refine z_istore_n (lv' := [(1, .int (zI ((ny26 : Int)))), (0, .ref (ad i)), (2, .int (zI ((ny26 : Int))))]) C dX10_worst_33 rfl (by decide) rfl ?_
            refine z_iinc (z := (ny26 : Int) + 1) (lv' := [(2, .int (zI ((ny26 : Int) + 1))), (1, .int (zI ((ny26 : Int)))), (0, .ref (ad i))]) (j := 2) C dX10_worst_34 rfl rfl (by decide) rfl ?_
            refine z_goto (tgt := 4) C dX10_worst_37 (by decide) ?_
            refine z_lv (lv' := [(0, .ref (ad i)), (1, .int (zI ((ny26 : Int)))), (2, .int (zI ((ny26 : Int) + 1)))]) [2, 1, 0] rfl ?_
            exact ih _ (by omega) ((ny26 : Int)) ((ny26 : Int) + 1) _ rfl rfl (by omega) (by omega)
  refine z_iconst (z := -1) C dX10_worst_0 rfl ?_
  refine z_istore_n (lv' := [(1, .int (zI (-1))), (0, .ref (ad i))]) C dX10_worst_1 rfl (by decide) rfl ?_
  refine z_iconst (z := 0) C dX10_worst_2 rfl ?_
  refine z_istore_n (lv' := [(2, .int (zI (0))), (1, .int (zI (-1))), (0, .ref (ad i))]) C dX10_worst_3 rfl (by decide) rfl ?_
  refine z_lv (lv' := [(0, .ref (ad i)), (1, .int (zI (-1))), (2, .int (zI (0)))]) [2, 1, 0] rfl ?_
  exact lp _ (-1) (0) _ rfl rfl (by omega) (by omega)

set_option maxRecDepth 100000 in
set_option maxHeartbeats 4000000 in
theorem c_X10_fault (l : Launch) (D : va_G) (A : Nat → Prop) (cs : Nat → ClassId) (tt : Nat) (N : Nat) (ad : Nat → Nat) (g : Nat → va_E) (i : Nat) (hN : i + 30 ≤ N) (x : Int) (hx : 0 ≤ x ∧ x ≤ 512) (F r : Nat → Int) {st op ai fa mu tb tp : Nat → Int} (hM : okMr cs ad g i x F r st op ai fa mu tb tp) (hPl : F 25 = 0 ∧ F 26 = -1 ∧ F 27 = -1 ∧ F 29 = 0) : zM l yX10_fault cX10_fault 1 (some .int) ({ frames := 1, cells := 0, slots := 0, locals := 60 } : Room) D A cs tt N ad g [.ref (ad i)] (rI0 N ad fun q g' => ((-2147483648 ≤ q ∧ q ≤ 2147483647) ∧ zI (F 24) = zI q) ∧ (∃ F' r' : Nat → Int, okMr cs ad g' i (x + 1) F' r' st op ai fa mu tb tp ∧ (F' 13 = F 13 ∧ F' 14 = F 14 ∧ F' 15 = F 15 ∧ F' 16 = F 16 ∧ F' 17 = F 17 ∧ F' 18 = F 18 ∧ F' 19 = F 19 ∧ F' 20 = F 20 ∧ F' 21 = F 21 ∧ F' 23 = F 23 ∧ F' 24 = F 24) ∧ (F' 25 = 0 ∧ F' 26 = -1 ∧ F' 27 = -1 ∧ F' 29 = 0) ∧ (∀ j, j < 350 ∨ 700 ≤ j → r' j = r j)) ∧ ∀ j, j < i ∨ i + 30 ≤ j ∨ (i + 8 ≤ j ∧ j ≤ i + 12) → g' j = g j) := by
  obtain ⟨hg, ⟨⟨e13, e14, e25, e27, e29⟩, k15, k16, k17, k18, k19, k20, k23, k21⟩, hRD, hTx, hA, ns, nh, nd, rf, pi, te, ki, li, ok1, ok2, fo, dd, dps, ⟨ha1, ha2, ha3, ha4, ha5, ha6, ha7, ha8, ha9, ha10, ha11, ha12, ha13, ha14, ha15, ha24, ha25, ha26, ha27, ha28, ha29⟩, hEv, hPt, hns, htp⟩ := id hM
  obtain ⟨-, hop, hai, hfa, hT, hT1⟩ := id hEv
  have hay1 : zAt ad (i) (ad i) := rfl
  have hay2 : zAt ad (i + 1) (ad (i + 1)) := rfl
  have hay3 : zAt ad (i + 2) (ad (i + 2)) := rfl
  have hay4 : zAt ad (i + 3) (ad (i + 3)) := rfl
  have hay5 : zAt ad (i + 4) (ad (i + 4)) := rfl
  have hay6 : zAt ad (i + 5) (ad (i + 5)) := rfl
  have hay7 : zAt ad (i + 6) (ad (i + 6)) := rfl
  have hay8 : zAt ad (i + 7) (ad (i + 7)) := rfl
  have hay9 : zAt ad (i + 8) (ad (i + 8)) := rfl
  have hay10 : zAt ad (i + 9) (ad (i + 9)) := rfl
  have hay11 : zAt ad (i + 10) (ad (i + 10)) := rfl
  have hay12 : zAt ad (i + 11) (ad (i + 11)) := rfl
  have hay13 : zAt ad (i + 12) (ad (i + 12)) := rfl
  have hay14 : zAt ad (i + 13) (ad (i + 13)) := rfl
  have hay15 : zAt ad (i + 14) (ad (i + 14)) := rfl
  have hay16 : zAt ad (i + 15) (ad (i + 15)) := rfl
  have hay17 : zAt ad (i + 24) (ad (i + 24)) := rfl
  have hay18 : zAt ad (i + 25) (ad (i + 25)) := rfl
  have hay19 : zAt ad (i + 26) (ad (i + 26)) := rfl
  have hay20 : zAt ad (i + 27) (ad (i + 27)) := rfl
  have hay21 : zAt ad (i + 28) (ad (i + 28)) := rfl
  have hay22 : zAt ad (i + 29) (ad (i + 29)) := rfl
  obtain ⟨⟨hsyy23, htyy23, hnyy23, hpyy23⟩, hlyy23⟩ := okA.at0 hA
  simp only [Nat.zero_add] at hsyy23 hnyy23 hpyy23
  have hmn : ∀ s, s < 4 → 0 ≤ r (6 + 86 * s) ∧ r (6 + 86 * s) ≤ 12 := fun s hs => (hsyy23 s hs).1
  have h5 : 0 ≤ r 5 ∧ r 5 ≤ 6 := hpyy23
  obtain ⟨hp25, hp26, hp27, hp29⟩ := id hPl
  refine z_of (by decide) (Nat.le_of_ble_eq_true rfl) ?_
  intro pZ eZ sZ mZ below meth cZ C hr hlk hnm
  refine z_lv (lv' := [(0, .ref (ad i))]) [0] rfl ?_
  refine z_aload_n C 0 dX10_fault_0 rfl ?_
  refine z_iconst (z := 0) C dX10_fault_1 rfl ?_
  refine z_put (fs' := mF ad (i) (uZ F 12 (0))) C (lt_A0 hN rfl) hay1 hg tyX10 tyX10_ok nmX10 rfl inA_X10 12 (by decide) q_1471 rfl rfl rfl rfl (Nat.le_of_ble_eq_true rfl) rfl dX10_fault_2 (fun gy24 egy25 => ?_)
  have hgy26 := up_s egy25
  refine z_aload_n C 0 dX10_fault_5 rfl ?_
  refine z_get (v := .int (zI (F 24))) C (lt_A0 hN rfl) hay1 hgy26 rfl inA_X10 24 (by decide) q_1483 rfl (fv (F := (uZ F 12 (0))) (f := 24) (fn rfl (by decide))) dX10_fault_6 ?_
  obtain ⟨r9, e9, h9⟩ := zI_of (zI (F 24))
  rw [e9]
  have hgy27 := up_n egy25 ha1 (ne_o (i := i) (c := 1) (d := 0) rfl)
  have hFy28 : ∀ f, f ≠ 12 → (uZ F 12 (0)) f = F f := fun f n12 => ((uZ_n _ _ n12).trans rfl)
  have hey29 : (uZ F 12 (0)) 13 = F 13 := (fn rfl (by decide))
  have hey30 : (uZ F 12 (0)) 14 = F 14 := (fn rfl (by decide))
  have hey31 : (uZ F 12 (0)) 15 = F 15 := (fn rfl (by decide))
  have hey32 : (uZ F 12 (0)) 16 = F 16 := (fn rfl (by decide))
  have hey33 : (uZ F 12 (0)) 17 = F 17 := (fn rfl (by decide))
  have hey34 : (uZ F 12 (0)) 18 = F 18 := (fn rfl (by decide))
  have hey35 : (uZ F 12 (0)) 19 = F 19 := (fn rfl (by decide))
  have hey36 : (uZ F 12 (0)) 20 = F 20 := (fn rfl (by decide))
  have hey37 : (uZ F 12 (0)) 21 = F 21 := (fn rfl (by decide))
  have hey38 : (uZ F 12 (0)) 23 = F 23 := (fn rfl (by decide))
  have hey39 : (uZ F 12 (0)) 25 = F 25 := (fn rfl (by decide))
  have hey40 : (uZ F 12 (0)) 27 = F 27 := (fn rfl (by decide))
  have hey41 : (uZ F 12 (0)) 28 = F 28 := (fn rfl (by decide))
  have hey42 : (uZ F 12 (0)) 29 = F 29 := (fn rfl (by decide))
  have hKy43 : okF (uZ F 12 (0)) := okF.mv hM.2.1 hey29 hey30 hey31 hey32 hey33 hey34 hey35 hey36 hey37 hey38 hey39 hey40 hey41 hey42
  have hMy44 : okMr cs ad gy24 i (x + 1) (uZ F 12 (0)) r st op ai fa mu tb tp := okMr.upd hM hgy26 hKy43 (fun f a => hFy28 f (by omega)) hgy27 (hA.mono (by omega)) (fun j a b => by
      exact Or.inl (by rw [egy25, va_up_ne _ _ (by omega)]))
  have hkpy45 : (uZ F 12 (0)) 13 = F 13 := (fn rfl (by decide))
  have hkpy46 : (uZ F 12 (0)) 14 = F 14 := (fn rfl (by decide))
  have hkpy47 : (uZ F 12 (0)) 15 = F 15 := (fn rfl (by decide))
  have hkpy48 : (uZ F 12 (0)) 16 = F 16 := (fn rfl (by decide))
  have hkpy49 : (uZ F 12 (0)) 17 = F 17 := (fn rfl (by decide))
  have hkpy50 : (uZ F 12 (0)) 18 = F 18 := (fn rfl (by decide))
  have hkpy51 : (uZ F 12 (0)) 19 = F 19 := (fn rfl (by decide))
  have hkpy52 : (uZ F 12 (0)) 20 = F 20 := (fn rfl (by decide))
  have hkpy53 : (uZ F 12 (0)) 21 = F 21 := (fn rfl (by decide))
  have hkpy54 : (uZ F 12 (0)) 23 = F 23 := (fn rfl (by decide))
  have hkpy55 : (uZ F 12 (0)) 24 = F 24 := (fn rfl (by decide))
  have hkpy56 : (uZ F 12 (0)) 25 = F 25 := (fn rfl (by decide))
  have hkpy57 : (uZ F 12 (0)) 26 = F 26 := (fn rfl (by decide))
  have hkpy58 : (uZ F 12 (0)) 27 = F 27 := (fn rfl (by decide))
  have hkpy59 : (uZ F 12 (0)) 29 = F 29 := (fn rfl (by decide))
  exact z_iret C hr hlk dX10_fault_9 (by decide) (by decide) ⟨r9, rfl, rfl, rfl, ⟨by omega, (by first | rfl | exact e9)⟩, ⟨_, _, hMy44, ⟨hkpy45, hkpy46, hkpy47, hkpy48, hkpy49, hkpy50, hkpy51, hkpy52, hkpy53, hkpy54, hkpy55⟩, ⟨(hkpy56.trans hp25), (hkpy57.trans hp26), (hkpy58.trans hp27), (hkpy59.trans hp29)⟩, (fun j _ => rfl)⟩, fun j j1 => by rw [egy25, va_up_ne _ _ (by omega)]⟩

set_option maxRecDepth 100000 in
set_option maxHeartbeats 4000000 in
theorem c_X10_count (l : Launch) (D : va_G) (A : Nat → Prop) (cs : Nat → ClassId) (tt : Nat) (N : Nat) (ad : Nat → Nat) (g : Nat → va_E) (i : Nat) (hN : i + 30 ≤ N) (x : Int) (hx : 0 ≤ x ∧ x ≤ 512) (F r : Nat → Int) {st op ai fa mu tb tp : Nat → Int} (hM : okMr cs ad g i x F r st op ai fa mu tb tp) (hPl : F 25 = 0 ∧ F 26 = -1 ∧ F 27 = -1 ∧ F 29 = 0) (z : Int) (hz : -2147483648 ≤ z ∧ z ≤ 2147483647) : zM l yX10_count cX10_count 2 (some .int) ({ frames := 12, cells := 0, slots := 0, locals := 720 } : Room) D A cs tt N ad g [.ref (ad i), .int (zI (z))] (rI0 N ad fun q g' => (-2147483648 ≤ q ∧ q ≤ 2147483647) ∧ (∃ F' r' : Nat → Int, okMr cs ad g' i (x + 1) F' r' st op ai fa mu tb tp ∧ (F' 13 = F 13 ∧ F' 14 = F 14 ∧ F' 15 = F 15 ∧ F' 16 = F 16 ∧ F' 17 = F 17 ∧ F' 18 = F 18 ∧ F' 19 = F 19 ∧ F' 20 = F 20 ∧ F' 21 = F 21 ∧ F' 23 = F 23 ∧ F' 24 = F 24) ∧ (F' 25 = 0 ∧ F' 26 = -1 ∧ F' 27 = -1 ∧ F' 29 = 0) ∧ (∀ j, j < 350 ∨ 700 ≤ j → r' j = r j)) ∧ ∀ j, j < i ∨ i + 30 ≤ j ∨ (i + 8 ≤ j ∧ j ≤ i + 12) → g' j = g j) := by
  obtain ⟨hg, ⟨⟨e13, e14, e25, e27, e29⟩, k15, k16, k17, k18, k19, k20, k23, k21⟩, hRD, hTx, hA, ns, nh, nd, rf, pi, te, ki, li, ok1, ok2, fo, dd, dps, ⟨ha1, ha2, ha3, ha4, ha5, ha6, ha7, ha8, ha9, ha10, ha11, ha12, ha13, ha14, ha15, ha24, ha25, ha26, ha27, ha28, ha29⟩, hEv, hPt, hns, htp⟩ := id hM
  obtain ⟨-, hop, hai, hfa, hT, hT1⟩ := id hEv
  have hay1 : zAt ad (i) (ad i) := rfl
  have hay2 : zAt ad (i + 1) (ad (i + 1)) := rfl
  have hay3 : zAt ad (i + 2) (ad (i + 2)) := rfl
  have hay4 : zAt ad (i + 3) (ad (i + 3)) := rfl
  have hay5 : zAt ad (i + 4) (ad (i + 4)) := rfl
  have hay6 : zAt ad (i + 5) (ad (i + 5)) := rfl
  have hay7 : zAt ad (i + 6) (ad (i + 6)) := rfl
  have hay8 : zAt ad (i + 7) (ad (i + 7)) := rfl
  have hay9 : zAt ad (i + 8) (ad (i + 8)) := rfl
  have hay10 : zAt ad (i + 9) (ad (i + 9)) := rfl
  have hay11 : zAt ad (i + 10) (ad (i + 10)) := rfl
  have hay12 : zAt ad (i + 11) (ad (i + 11)) := rfl
  have hay13 : zAt ad (i + 12) (ad (i + 12)) := rfl
  have hay14 : zAt ad (i + 13) (ad (i + 13)) := rfl
  have hay15 : zAt ad (i + 14) (ad (i + 14)) := rfl
  have hay16 : zAt ad (i + 15) (ad (i + 15)) := rfl
  have hay17 : zAt ad (i + 24) (ad (i + 24)) := rfl
  have hay18 : zAt ad (i + 25) (ad (i + 25)) := rfl
  have hay19 : zAt ad (i + 26) (ad (i + 26)) := rfl
  have hay20 : zAt ad (i + 27) (ad (i + 27)) := rfl
  have hay21 : zAt ad (i + 28) (ad (i + 28)) := rfl
  have hay22 : zAt ad (i + 29) (ad (i + 29)) := rfl
  obtain ⟨⟨hsyy23, htyy23, hnyy23, hpyy23⟩, hlyy23⟩ := okA.at0 hA
  simp only [Nat.zero_add] at hsyy23 hnyy23 hpyy23
  have hmn : ∀ s, s < 4 → 0 ≤ r (6 + 86 * s) ∧ r (6 + 86 * s) ≤ 12 := fun s hs => (hsyy23 s hs).1
  have h5 : 0 ≤ r 5 ∧ r 5 ≤ 6 := hpyy23
  obtain ⟨hp25, hp26, hp27, hp29⟩ := id hPl
  refine z_of (by decide) (Nat.le_of_ble_eq_true rfl) ?_
  intro pZ eZ sZ mZ below meth cZ C hr hlk hnm
  refine z_lv (lv' := [(0, .ref (ad i)), (1, .int (zI (z)))]) [0, 1] rfl ?_
  refine z_aload_n C 0 dX10_count_0 rfl ?_
  refine z_iconst (z := 0) C dX10_count_1 rfl ?_
  refine z_put (fs' := mF ad (i) (uZ F 12 (0))) C (lt_A0 hN rfl) hay1 hg tyX10 tyX10_ok nmX10 rfl inA_X10 12 (by decide) q_1471 rfl rfl rfl rfl (Nat.le_of_ble_eq_true rfl) rfl dX10_count_2 (fun gy24 egy25 => ?_)
  have hgy26 := up_s egy25
  refine z_aload_n C 0 dX10_count_5 rfl ?_
  refine z_iload_n C 1 dX10_count_6 rfl ?_
  refine z_iconst (z := 0) C dX10_count_7 rfl ?_
  refine z_bipush (z := 17) C dX10_count_8 (by decide) ?_
  refine z_cS (As := [.int (zI (z)), .int (zI (0)), .int (zI (17))]) (rest := [.ref (ad i)]) C (c_X10_within l D A cs tt N ad _ (z) (by omega) (0) (by omega) (17) (by omega)) ms_yX10_within q_1686 hd_yX10_within (by decide) (Nat.le_of_ble_eq_true rfl) (by decide) dX10_count_10 rfl (kI0 fun vy27 gvy27 hvy27 => ?_)
  obtain ⟨hvy27, rfl⟩ := hvy27
  rcases hvy27 with ⟨rfl, hxvy27⟩ | ⟨rfl, hxvy27⟩
  · refine z_iconst (z := 1) C dX10_count_13 rfl ?_
    have hey29 : (uZ F 12 (0)) 12 = 0 := (uZ_s _ _ _)
    refine z_cV (As := [.int (zI (1)), .int (zI (1))]) (rest := []) (ci := 12) C (c_X10_right l D A cs tt N ad _ i hN _ hgy26 (by omega) (1) (by omega) (1) (by omega)) (lt_A0 hN rfl) hay1 hgy26 rfl rfl mv_yX10_right q_1648 hd_yX10_right (by decide) (Nat.le_of_ble_eq_true rfl) (by decide) dX10_count_14 rfl (kI0 fun vy28 gvy28 hvy28 => ?_)
    obtain ⟨hrvy28, ⟨Fvy28, hcvy28, htvy28, hFvy28⟩, hfvy28⟩ := hvy28
    rcases (show vy28 = 1 ∨ vy28 = 0 by omega) with rfl | rfl
    · refine z_if_ne (tgt := 22) C dX10_count_17 (by decide) (by omega) (fun _ => ?_) (fun h => absurd h (by omega))
      refine z_iload_n C 1 dX10_count_22 rfl ?_
      by_cases hsy30 : z ≠ 0 ∧ z ≠ 1 ∧ z ≠ 2 ∧ z ≠ 3 ∧ z ≠ 4 ∧ z ≠ 5 ∧ z ≠ 6 ∧ z ≠ 7 ∧ z ≠ 8 ∧ z ≠ 9 ∧ z ≠ 10 ∧ z ≠ 11 ∧ z ≠ 12 ∧ z ≠ 13 ∧ z ≠ 14
      · refine z_tout (tgt := 183) C dX10_count_23 (by omega) (by omega) (by decide) ?_
        refine z_aload_n C 0 dX10_count_183 rfl ?_
        refine z_get (v := .ref (ad (i + 11))) C (lt_A0 hN rfl) hay1 hcvy28 rfl inA_X10 10 (by decide) q_1469 rfl rfl dX10_count_184 ?_
        refine z_iload_n C 1 dX10_count_187 rfl ?_
        refine z_bipush (z := 15) C dX10_count_188 (by decide) ?_
        refine z_isub C dX10_count_190 ?_
        have hgy31 := up_n egy25 ha11 (ne_o (i := i) (c := 11) (d := 0) rfl)
        have hgy32 := (hfvy28 (i + 11) (ne_o (i := i) (c := 11) (d := 0) rfl)).trans hgy31
        refine z_iald C (lt_A (c := 11) hN rfl) hay12 hgy32 ((z - 15).toNat) (by omega) (by omega) (by decide) dX10_count_191 ?_
        obtain ⟨xy33, exy34, hxy35⟩ := zI_of (zI (rf ((z - 15).toNat)))
        rw [exy34]
        have hgy36 := up_n egy25 ha1 (ne_o (i := i) (c := 1) (d := 0) rfl)
        have hgy37 := (hfvy28 (i + 1) (ne_o (i := i) (c := 1) (d := 0) rfl)).trans hgy36
        have hFy38 : ∀ f, f ≠ 12 → Fvy28 f = F f := fun f n12 => ((hFvy28 f n12).trans ((uZ_n _ _ n12).trans rfl))
        have hey39 : Fvy28 13 = F 13 := ((hFvy28 13 (by decide)).trans (fn rfl (by decide)))
        have hey40 : Fvy28 14 = F 14 := ((hFvy28 14 (by decide)).trans (fn rfl (by decide)))
        have hey41 : Fvy28 15 = F 15 := ((hFvy28 15 (by decide)).trans (fn rfl (by decide)))
        have hey42 : Fvy28 16 = F 16 := ((hFvy28 16 (by decide)).trans (fn rfl (by decide)))
        have hey43 : Fvy28 17 = F 17 := ((hFvy28 17 (by decide)).trans (fn rfl (by decide)))
        have hey44 : Fvy28 18 = F 18 := ((hFvy28 18 (by decide)).trans (fn rfl (by decide)))
        have hey45 : Fvy28 19 = F 19 := ((hFvy28 19 (by decide)).trans (fn rfl (by decide)))
        have hey46 : Fvy28 20 = F 20 := ((hFvy28 20 (by decide)).trans (fn rfl (by decide)))
        have hey47 : Fvy28 21 = F 21 := ((hFvy28 21 (by decide)).trans (fn rfl (by decide)))
        have hey48 : Fvy28 23 = F 23 := ((hFvy28 23 (by decide)).trans (fn rfl (by decide)))
        have hey49 : Fvy28 25 = F 25 := ((hFvy28 25 (by decide)).trans (fn rfl (by decide)))
        have hey50 : Fvy28 27 = F 27 := ((hFvy28 27 (by decide)).trans (fn rfl (by decide)))
        have hey51 : Fvy28 28 = F 28 := ((hFvy28 28 (by decide)).trans (fn rfl (by decide)))
        have hey52 : Fvy28 29 = F 29 := ((hFvy28 29 (by decide)).trans (fn rfl (by decide)))
        have hKy53 : okF Fvy28 := okF.mv hM.2.1 hey39 hey40 hey41 hey42 hey43 hey44 hey45 hey46 hey47 hey48 hey49 hey50 hey51 hey52
        have hMy54 : okMr cs ad gvy28 i (x + 1) Fvy28 r st op ai fa mu tb tp := okMr.upd hM hcvy28 hKy53 (fun f a => hFy38 f (by omega)) hgy37 (hA.mono (by omega)) (fun j a b => by
            exact Or.inl (by rw [hfvy28 _ (by omega)]; rw [egy25, va_up_ne _ _ (by omega)]))
        have hkpy55 : Fvy28 13 = F 13 := ((hFvy28 13 (by decide)).trans (fn rfl (by decide)))
        have hkpy56 : Fvy28 14 = F 14 := ((hFvy28 14 (by decide)).trans (fn rfl (by decide)))
        have hkpy57 : Fvy28 15 = F 15 := ((hFvy28 15 (by decide)).trans (fn rfl (by decide)))
        have hkpy58 : Fvy28 16 = F 16 := ((hFvy28 16 (by decide)).trans (fn rfl (by decide)))
        have hkpy59 : Fvy28 17 = F 17 := ((hFvy28 17 (by decide)).trans (fn rfl (by decide)))
        have hkpy60 : Fvy28 18 = F 18 := ((hFvy28 18 (by decide)).trans (fn rfl (by decide)))
        have hkpy61 : Fvy28 19 = F 19 := ((hFvy28 19 (by decide)).trans (fn rfl (by decide)))
        have hkpy62 : Fvy28 20 = F 20 := ((hFvy28 20 (by decide)).trans (fn rfl (by decide)))
        have hkpy63 : Fvy28 21 = F 21 := ((hFvy28 21 (by decide)).trans (fn rfl (by decide)))
        have hkpy64 : Fvy28 23 = F 23 := ((hFvy28 23 (by decide)).trans (fn rfl (by decide)))
        have hkpy65 : Fvy28 24 = F 24 := ((hFvy28 24 (by decide)).trans (fn rfl (by decide)))
        have hkpy66 : Fvy28 25 = F 25 := ((hFvy28 25 (by decide)).trans (fn rfl (by decide)))
        have hkpy67 : Fvy28 26 = F 26 := ((hFvy28 26 (by decide)).trans (fn rfl (by decide)))
        have hkpy68 : Fvy28 27 = F 27 := ((hFvy28 27 (by decide)).trans (fn rfl (by decide)))
        have hkpy69 : Fvy28 29 = F 29 := ((hFvy28 29 (by decide)).trans (fn rfl (by decide)))
        exact z_iret C hr hlk dX10_count_192 (by decide) (by decide) ⟨xy33, rfl, rfl, rfl, by omega, ⟨_, _, hMy54, ⟨hkpy55, hkpy56, hkpy57, hkpy58, hkpy59, hkpy60, hkpy61, hkpy62, hkpy63, hkpy64, hkpy65⟩, ⟨(hkpy66.trans hp25), (hkpy67.trans hp26), (hkpy68.trans hp27), (hkpy69.trans hp29)⟩, (fun j _ => rfl)⟩, fun j j1 => by rw [hfvy28 _ (by omega)]; rw [egy25, va_up_ne _ _ (by omega)]⟩
      · rcases (show z = 0 ∨ z = 1 ∨ z = 2 ∨ z = 3 ∨ z = 4 ∨ z = 5 ∨ z = 6 ∨ z = 7 ∨ z = 8 ∨ z = 9 ∨ z = 10 ∨ z = 11 ∨ z = 12 ∨ z = 13 ∨ z = 14 by omega) with rfl | rfl | rfl | rfl | rfl | rfl | rfl | rfl | rfl | rfl | rfl | rfl | rfl | rfl | rfl
        · refine z_tin (off := 73) (tgt := 96) C dX10_count_23 (by omega) (by omega) (by omega) rfl (by decide) ?_
          refine z_aload_n C 0 dX10_count_96 rfl ?_
          refine z_get (v := .int (zI (F 13))) C (lt_A0 hN rfl) hay1 hcvy28 rfl inA_X10 13 (by decide) q_1472 rfl (fv (F := Fvy28) (f := 13) ((hFvy28 13 (by decide)).trans (fn rfl (by decide)))) dX10_count_97 ?_
          have hgy70 := up_n egy25 ha1 (ne_o (i := i) (c := 1) (d := 0) rfl)
          have hgy71 := (hfvy28 (i + 1) (ne_o (i := i) (c := 1) (d := 0) rfl)).trans hgy70
          have hFy72 : ∀ f, f ≠ 12 → Fvy28 f = F f := fun f n12 => ((hFvy28 f n12).trans ((uZ_n _ _ n12).trans rfl))
          have hey73 : Fvy28 13 = F 13 := ((hFvy28 13 (by decide)).trans (fn rfl (by decide)))
          have hey74 : Fvy28 14 = F 14 := ((hFvy28 14 (by decide)).trans (fn rfl (by decide)))
          have hey75 : Fvy28 15 = F 15 := ((hFvy28 15 (by decide)).trans (fn rfl (by decide)))
          have hey76 : Fvy28 16 = F 16 := ((hFvy28 16 (by decide)).trans (fn rfl (by decide)))
          have hey77 : Fvy28 17 = F 17 := ((hFvy28 17 (by decide)).trans (fn rfl (by decide)))
          have hey78 : Fvy28 18 = F 18 := ((hFvy28 18 (by decide)).trans (fn rfl (by decide)))
          have hey79 : Fvy28 19 = F 19 := ((hFvy28 19 (by decide)).trans (fn rfl (by decide)))
          have hey80 : Fvy28 20 = F 20 := ((hFvy28 20 (by decide)).trans (fn rfl (by decide)))
          have hey81 : Fvy28 21 = F 21 := ((hFvy28 21 (by decide)).trans (fn rfl (by decide)))
          have hey82 : Fvy28 23 = F 23 := ((hFvy28 23 (by decide)).trans (fn rfl (by decide)))
          have hey83 : Fvy28 25 = F 25 := ((hFvy28 25 (by decide)).trans (fn rfl (by decide)))
          have hey84 : Fvy28 27 = F 27 := ((hFvy28 27 (by decide)).trans (fn rfl (by decide)))
          have hey85 : Fvy28 28 = F 28 := ((hFvy28 28 (by decide)).trans (fn rfl (by decide)))
          have hey86 : Fvy28 29 = F 29 := ((hFvy28 29 (by decide)).trans (fn rfl (by decide)))
          have hKy87 : okF Fvy28 := okF.mv hM.2.1 hey73 hey74 hey75 hey76 hey77 hey78 hey79 hey80 hey81 hey82 hey83 hey84 hey85 hey86
          have hMy88 : okMr cs ad gvy28 i (x + 1) Fvy28 r st op ai fa mu tb tp := okMr.upd hM hcvy28 hKy87 (fun f a => hFy72 f (by omega)) hgy71 (hA.mono (by omega)) (fun j a b => by
              exact Or.inl (by rw [hfvy28 _ (by omega)]; rw [egy25, va_up_ne _ _ (by omega)]))
          have hkpy89 : Fvy28 13 = F 13 := ((hFvy28 13 (by decide)).trans (fn rfl (by decide)))
          have hkpy90 : Fvy28 14 = F 14 := ((hFvy28 14 (by decide)).trans (fn rfl (by decide)))
          have hkpy91 : Fvy28 15 = F 15 := ((hFvy28 15 (by decide)).trans (fn rfl (by decide)))
          have hkpy92 : Fvy28 16 = F 16 := ((hFvy28 16 (by decide)).trans (fn rfl (by decide)))
          have hkpy93 : Fvy28 17 = F 17 := ((hFvy28 17 (by decide)).trans (fn rfl (by decide)))
          have hkpy94 : Fvy28 18 = F 18 := ((hFvy28 18 (by decide)).trans (fn rfl (by decide)))
          have hkpy95 : Fvy28 19 = F 19 := ((hFvy28 19 (by decide)).trans (fn rfl (by decide)))
          have hkpy96 : Fvy28 20 = F 20 := ((hFvy28 20 (by decide)).trans (fn rfl (by decide)))
          have hkpy97 : Fvy28 21 = F 21 := ((hFvy28 21 (by decide)).trans (fn rfl (by decide)))
          have hkpy98 : Fvy28 23 = F 23 := ((hFvy28 23 (by decide)).trans (fn rfl (by decide)))
          have hkpy99 : Fvy28 24 = F 24 := ((hFvy28 24 (by decide)).trans (fn rfl (by decide)))
          have hkpy100 : Fvy28 25 = F 25 := ((hFvy28 25 (by decide)).trans (fn rfl (by decide)))
          have hkpy101 : Fvy28 26 = F 26 := ((hFvy28 26 (by decide)).trans (fn rfl (by decide)))
          have hkpy102 : Fvy28 27 = F 27 := ((hFvy28 27 (by decide)).trans (fn rfl (by decide)))
          have hkpy103 : Fvy28 29 = F 29 := ((hFvy28 29 (by decide)).trans (fn rfl (by decide)))
          exact z_iret C hr hlk dX10_count_100 (by decide) (by decide) ⟨F 13, rfl, rfl, rfl, by omega, ⟨_, _, hMy88, ⟨hkpy89, hkpy90, hkpy91, hkpy92, hkpy93, hkpy94, hkpy95, hkpy96, hkpy97, hkpy98, hkpy99⟩, ⟨(hkpy100.trans hp25), (hkpy101.trans hp26), (hkpy102.trans hp27), (hkpy103.trans hp29)⟩, (fun j _ => rfl)⟩, fun j j1 => by rw [hfvy28 _ (by omega)]; rw [egy25, va_up_ne _ _ (by omega)]⟩
        · refine z_tin (off := 78) (tgt := 101) C dX10_count_23 (by omega) (by omega) (by omega) rfl (by decide) ?_
          refine z_aload_n C 0 dX10_count_101 rfl ?_
          refine z_get (v := .int (zI (F 14))) C (lt_A0 hN rfl) hay1 hcvy28 rfl inA_X10 14 (by decide) q_1473 rfl (fv (F := Fvy28) (f := 14) ((hFvy28 14 (by decide)).trans (fn rfl (by decide)))) dX10_count_102 ?_
          have hgy104 := up_n egy25 ha1 (ne_o (i := i) (c := 1) (d := 0) rfl)
          have hgy105 := (hfvy28 (i + 1) (ne_o (i := i) (c := 1) (d := 0) rfl)).trans hgy104
          have hFy106 : ∀ f, f ≠ 12 → Fvy28 f = F f := fun f n12 => ((hFvy28 f n12).trans ((uZ_n _ _ n12).trans rfl))
          have hey107 : Fvy28 13 = F 13 := ((hFvy28 13 (by decide)).trans (fn rfl (by decide)))
          have hey108 : Fvy28 14 = F 14 := ((hFvy28 14 (by decide)).trans (fn rfl (by decide)))
          have hey109 : Fvy28 15 = F 15 := ((hFvy28 15 (by decide)).trans (fn rfl (by decide)))
          have hey110 : Fvy28 16 = F 16 := ((hFvy28 16 (by decide)).trans (fn rfl (by decide)))
          have hey111 : Fvy28 17 = F 17 := ((hFvy28 17 (by decide)).trans (fn rfl (by decide)))
          have hey112 : Fvy28 18 = F 18 := ((hFvy28 18 (by decide)).trans (fn rfl (by decide)))
          have hey113 : Fvy28 19 = F 19 := ((hFvy28 19 (by decide)).trans (fn rfl (by decide)))
          have hey114 : Fvy28 20 = F 20 := ((hFvy28 20 (by decide)).trans (fn rfl (by decide)))
          have hey115 : Fvy28 21 = F 21 := ((hFvy28 21 (by decide)).trans (fn rfl (by decide)))
          have hey116 : Fvy28 23 = F 23 := ((hFvy28 23 (by decide)).trans (fn rfl (by decide)))
          have hey117 : Fvy28 25 = F 25 := ((hFvy28 25 (by decide)).trans (fn rfl (by decide)))
          have hey118 : Fvy28 27 = F 27 := ((hFvy28 27 (by decide)).trans (fn rfl (by decide)))
          have hey119 : Fvy28 28 = F 28 := ((hFvy28 28 (by decide)).trans (fn rfl (by decide)))
          have hey120 : Fvy28 29 = F 29 := ((hFvy28 29 (by decide)).trans (fn rfl (by decide)))
          have hKy121 : okF Fvy28 := okF.mv hM.2.1 hey107 hey108 hey109 hey110 hey111 hey112 hey113 hey114 hey115 hey116 hey117 hey118 hey119 hey120
          have hMy122 : okMr cs ad gvy28 i (x + 1) Fvy28 r st op ai fa mu tb tp := okMr.upd hM hcvy28 hKy121 (fun f a => hFy106 f (by omega)) hgy105 (hA.mono (by omega)) (fun j a b => by
              exact Or.inl (by rw [hfvy28 _ (by omega)]; rw [egy25, va_up_ne _ _ (by omega)]))
          have hkpy123 : Fvy28 13 = F 13 := ((hFvy28 13 (by decide)).trans (fn rfl (by decide)))
          have hkpy124 : Fvy28 14 = F 14 := ((hFvy28 14 (by decide)).trans (fn rfl (by decide)))
          have hkpy125 : Fvy28 15 = F 15 := ((hFvy28 15 (by decide)).trans (fn rfl (by decide)))
          have hkpy126 : Fvy28 16 = F 16 := ((hFvy28 16 (by decide)).trans (fn rfl (by decide)))
          have hkpy127 : Fvy28 17 = F 17 := ((hFvy28 17 (by decide)).trans (fn rfl (by decide)))
          have hkpy128 : Fvy28 18 = F 18 := ((hFvy28 18 (by decide)).trans (fn rfl (by decide)))
          have hkpy129 : Fvy28 19 = F 19 := ((hFvy28 19 (by decide)).trans (fn rfl (by decide)))
          have hkpy130 : Fvy28 20 = F 20 := ((hFvy28 20 (by decide)).trans (fn rfl (by decide)))
          have hkpy131 : Fvy28 21 = F 21 := ((hFvy28 21 (by decide)).trans (fn rfl (by decide)))
          have hkpy132 : Fvy28 23 = F 23 := ((hFvy28 23 (by decide)).trans (fn rfl (by decide)))
          have hkpy133 : Fvy28 24 = F 24 := ((hFvy28 24 (by decide)).trans (fn rfl (by decide)))
          have hkpy134 : Fvy28 25 = F 25 := ((hFvy28 25 (by decide)).trans (fn rfl (by decide)))
          have hkpy135 : Fvy28 26 = F 26 := ((hFvy28 26 (by decide)).trans (fn rfl (by decide)))
          have hkpy136 : Fvy28 27 = F 27 := ((hFvy28 27 (by decide)).trans (fn rfl (by decide)))
          have hkpy137 : Fvy28 29 = F 29 := ((hFvy28 29 (by decide)).trans (fn rfl (by decide)))
          exact z_iret C hr hlk dX10_count_105 (by decide) (by decide) ⟨F 14, rfl, rfl, rfl, by omega, ⟨_, _, hMy122, ⟨hkpy123, hkpy124, hkpy125, hkpy126, hkpy127, hkpy128, hkpy129, hkpy130, hkpy131, hkpy132, hkpy133⟩, ⟨(hkpy134.trans hp25), (hkpy135.trans hp26), (hkpy136.trans hp27), (hkpy137.trans hp29)⟩, (fun j _ => rfl)⟩, fun j j1 => by rw [hfvy28 _ (by omega)]; rw [egy25, va_up_ne _ _ (by omega)]⟩
        · refine z_tin (off := 83) (tgt := 106) C dX10_count_23 (by omega) (by omega) (by omega) rfl (by decide) ?_
          refine z_aload_n C 0 dX10_count_106 rfl ?_
          refine z_get (v := .ref (ad (i + 1))) C (lt_A0 hN rfl) hay1 hcvy28 rfl inA_X10 0 (by decide) q_1459 rfl rfl dX10_count_107 ?_
          refine z_iconst (z := 0) C dX10_count_110 rfl ?_
          have hgy138 := up_n egy25 ha1 (ne_o (i := i) (c := 1) (d := 0) rfl)
          have hgy139 := (hfvy28 (i + 1) (ne_o (i := i) (c := 1) (d := 0) rfl)).trans hgy138
          refine z_iald C (lt_A (c := 1) hN rfl) hay2 hgy139 (0) (by omega) (by omega) (by decide) dX10_count_111 ?_
          have hFy140 : ∀ f, f ≠ 12 → Fvy28 f = F f := fun f n12 => ((hFvy28 f n12).trans ((uZ_n _ _ n12).trans rfl))
          have hey141 : Fvy28 13 = F 13 := ((hFvy28 13 (by decide)).trans (fn rfl (by decide)))
          have hey142 : Fvy28 14 = F 14 := ((hFvy28 14 (by decide)).trans (fn rfl (by decide)))
          have hey143 : Fvy28 15 = F 15 := ((hFvy28 15 (by decide)).trans (fn rfl (by decide)))
          have hey144 : Fvy28 16 = F 16 := ((hFvy28 16 (by decide)).trans (fn rfl (by decide)))
          have hey145 : Fvy28 17 = F 17 := ((hFvy28 17 (by decide)).trans (fn rfl (by decide)))
          have hey146 : Fvy28 18 = F 18 := ((hFvy28 18 (by decide)).trans (fn rfl (by decide)))
          have hey147 : Fvy28 19 = F 19 := ((hFvy28 19 (by decide)).trans (fn rfl (by decide)))
          have hey148 : Fvy28 20 = F 20 := ((hFvy28 20 (by decide)).trans (fn rfl (by decide)))
          have hey149 : Fvy28 21 = F 21 := ((hFvy28 21 (by decide)).trans (fn rfl (by decide)))
          have hey150 : Fvy28 23 = F 23 := ((hFvy28 23 (by decide)).trans (fn rfl (by decide)))
          have hey151 : Fvy28 25 = F 25 := ((hFvy28 25 (by decide)).trans (fn rfl (by decide)))
          have hey152 : Fvy28 27 = F 27 := ((hFvy28 27 (by decide)).trans (fn rfl (by decide)))
          have hey153 : Fvy28 28 = F 28 := ((hFvy28 28 (by decide)).trans (fn rfl (by decide)))
          have hey154 : Fvy28 29 = F 29 := ((hFvy28 29 (by decide)).trans (fn rfl (by decide)))
          have hKy155 : okF Fvy28 := okF.mv hM.2.1 hey141 hey142 hey143 hey144 hey145 hey146 hey147 hey148 hey149 hey150 hey151 hey152 hey153 hey154
          have hMy156 : okMr cs ad gvy28 i (x + 1) Fvy28 r st op ai fa mu tb tp := okMr.upd hM hcvy28 hKy155 (fun f a => hFy140 f (by omega)) hgy139 (hA.mono (by omega)) (fun j a b => by
              exact Or.inl (by rw [hfvy28 _ (by omega)]; rw [egy25, va_up_ne _ _ (by omega)]))
          have hkpy157 : Fvy28 13 = F 13 := ((hFvy28 13 (by decide)).trans (fn rfl (by decide)))
          have hkpy158 : Fvy28 14 = F 14 := ((hFvy28 14 (by decide)).trans (fn rfl (by decide)))
          have hkpy159 : Fvy28 15 = F 15 := ((hFvy28 15 (by decide)).trans (fn rfl (by decide)))
          have hkpy160 : Fvy28 16 = F 16 := ((hFvy28 16 (by decide)).trans (fn rfl (by decide)))
          have hkpy161 : Fvy28 17 = F 17 := ((hFvy28 17 (by decide)).trans (fn rfl (by decide)))
          have hkpy162 : Fvy28 18 = F 18 := ((hFvy28 18 (by decide)).trans (fn rfl (by decide)))
          have hkpy163 : Fvy28 19 = F 19 := ((hFvy28 19 (by decide)).trans (fn rfl (by decide)))
          have hkpy164 : Fvy28 20 = F 20 := ((hFvy28 20 (by decide)).trans (fn rfl (by decide)))
          have hkpy165 : Fvy28 21 = F 21 := ((hFvy28 21 (by decide)).trans (fn rfl (by decide)))
          have hkpy166 : Fvy28 23 = F 23 := ((hFvy28 23 (by decide)).trans (fn rfl (by decide)))
          have hkpy167 : Fvy28 24 = F 24 := ((hFvy28 24 (by decide)).trans (fn rfl (by decide)))
          have hkpy168 : Fvy28 25 = F 25 := ((hFvy28 25 (by decide)).trans (fn rfl (by decide)))
          have hkpy169 : Fvy28 26 = F 26 := ((hFvy28 26 (by decide)).trans (fn rfl (by decide)))
          have hkpy170 : Fvy28 27 = F 27 := ((hFvy28 27 (by decide)).trans (fn rfl (by decide)))
          have hkpy171 : Fvy28 29 = F 29 := ((hFvy28 29 (by decide)).trans (fn rfl (by decide)))
          exact z_iret C hr hlk dX10_count_112 (by decide) (by decide) ⟨r (0), rfl, rfl, rfl, by omega, ⟨_, _, hMy156, ⟨hkpy157, hkpy158, hkpy159, hkpy160, hkpy161, hkpy162, hkpy163, hkpy164, hkpy165, hkpy166, hkpy167⟩, ⟨(hkpy168.trans hp25), (hkpy169.trans hp26), (hkpy170.trans hp27), (hkpy171.trans hp29)⟩, (fun j _ => rfl)⟩, fun j j1 => by rw [hfvy28 _ (by omega)]; rw [egy25, va_up_ne _ _ (by omega)]⟩
        · refine z_tin (off := 90) (tgt := 113) C dX10_count_23 (by omega) (by omega) (by omega) rfl (by decide) ?_
          refine z_aload_n C 0 dX10_count_113 rfl ?_
          have hgy172 := up_n egy25 ha1 (ne_o (i := i) (c := 1) (d := 0) rfl)
          have hgy173 := (hfvy28 (i + 1) (ne_o (i := i) (c := 1) (d := 0) rfl)).trans hgy172
          have hFy174 : ∀ f, f ≠ 12 → Fvy28 f = F f := fun f n12 => ((hFvy28 f n12).trans ((uZ_n _ _ n12).trans rfl))
          have hey175 : Fvy28 13 = F 13 := ((hFvy28 13 (by decide)).trans (fn rfl (by decide)))
          have hey176 : Fvy28 14 = F 14 := ((hFvy28 14 (by decide)).trans (fn rfl (by decide)))
          have hey177 : Fvy28 15 = F 15 := ((hFvy28 15 (by decide)).trans (fn rfl (by decide)))
          have hey178 : Fvy28 16 = F 16 := ((hFvy28 16 (by decide)).trans (fn rfl (by decide)))
          have hey179 : Fvy28 17 = F 17 := ((hFvy28 17 (by decide)).trans (fn rfl (by decide)))
          have hey180 : Fvy28 18 = F 18 := ((hFvy28 18 (by decide)).trans (fn rfl (by decide)))
          have hey181 : Fvy28 19 = F 19 := ((hFvy28 19 (by decide)).trans (fn rfl (by decide)))
          have hey182 : Fvy28 20 = F 20 := ((hFvy28 20 (by decide)).trans (fn rfl (by decide)))
          have hey183 : Fvy28 21 = F 21 := ((hFvy28 21 (by decide)).trans (fn rfl (by decide)))
          have hey184 : Fvy28 23 = F 23 := ((hFvy28 23 (by decide)).trans (fn rfl (by decide)))
          have hey185 : Fvy28 25 = F 25 := ((hFvy28 25 (by decide)).trans (fn rfl (by decide)))
          have hey186 : Fvy28 27 = F 27 := ((hFvy28 27 (by decide)).trans (fn rfl (by decide)))
          have hey187 : Fvy28 28 = F 28 := ((hFvy28 28 (by decide)).trans (fn rfl (by decide)))
          have hey188 : Fvy28 29 = F 29 := ((hFvy28 29 (by decide)).trans (fn rfl (by decide)))
          have hKy189 : okF Fvy28 := okF.mv hM.2.1 hey175 hey176 hey177 hey178 hey179 hey180 hey181 hey182 hey183 hey184 hey185 hey186 hey187 hey188
          have hMy190 : okMr cs ad gvy28 i (x) Fvy28 r st op ai fa mu tb tp := okMr.upd hM hcvy28 hKy189 (fun f a => hFy174 f (by omega)) hgy173 (hA.mono (by omega)) (fun j a b => by
              exact Or.inl (by rw [hfvy28 _ (by omega)]; rw [egy25, va_up_ne _ _ (by omega)]))
          refine z_cV (As := []) (rest := []) (ci := 12) C (c_X10_allLayers l D A cs tt N ad _ i hN x hx _ _ hMy190 ) (lt_A0 hN rfl) hay1 hcvy28 rfl rfl mv_yX10_allLayers q_1729 hd_yX10_allLayers (by decide) (Nat.le_of_ble_eq_true rfl) (by decide) dX10_count_114 rfl (kI0 fun vy191 gvy191 hvy191 => ?_)
          obtain ⟨hvy191, rfl⟩ := hvy191
          have hFy192 : ∀ f, f ≠ 12 → Fvy28 f = F f := fun f n12 => ((hFvy28 f n12).trans ((uZ_n _ _ n12).trans rfl))
          have hey193 : Fvy28 13 = F 13 := ((hFvy28 13 (by decide)).trans (fn rfl (by decide)))
          have hey194 : Fvy28 14 = F 14 := ((hFvy28 14 (by decide)).trans (fn rfl (by decide)))
          have hey195 : Fvy28 15 = F 15 := ((hFvy28 15 (by decide)).trans (fn rfl (by decide)))
          have hey196 : Fvy28 16 = F 16 := ((hFvy28 16 (by decide)).trans (fn rfl (by decide)))
          have hey197 : Fvy28 17 = F 17 := ((hFvy28 17 (by decide)).trans (fn rfl (by decide)))
          have hey198 : Fvy28 18 = F 18 := ((hFvy28 18 (by decide)).trans (fn rfl (by decide)))
          have hey199 : Fvy28 19 = F 19 := ((hFvy28 19 (by decide)).trans (fn rfl (by decide)))
          have hey200 : Fvy28 20 = F 20 := ((hFvy28 20 (by decide)).trans (fn rfl (by decide)))
          have hey201 : Fvy28 21 = F 21 := ((hFvy28 21 (by decide)).trans (fn rfl (by decide)))
          have hey202 : Fvy28 23 = F 23 := ((hFvy28 23 (by decide)).trans (fn rfl (by decide)))
          have hey203 : Fvy28 25 = F 25 := ((hFvy28 25 (by decide)).trans (fn rfl (by decide)))
          have hey204 : Fvy28 27 = F 27 := ((hFvy28 27 (by decide)).trans (fn rfl (by decide)))
          have hey205 : Fvy28 28 = F 28 := ((hFvy28 28 (by decide)).trans (fn rfl (by decide)))
          have hey206 : Fvy28 29 = F 29 := ((hFvy28 29 (by decide)).trans (fn rfl (by decide)))
          have hKy207 : okF Fvy28 := okF.mv hM.2.1 hey193 hey194 hey195 hey196 hey197 hey198 hey199 hey200 hey201 hey202 hey203 hey204 hey205 hey206
          have hMy208 : okMr cs ad gvy28 i (x + 1) Fvy28 r st op ai fa mu tb tp := okMr.upd hM hcvy28 hKy207 (fun f a => hFy192 f (by omega)) hgy173 (hA.mono (by omega)) (fun j a b => by
              exact Or.inl (by rw [hfvy28 _ (by omega)]; rw [egy25, va_up_ne _ _ (by omega)]))
          have hkpy209 : Fvy28 13 = F 13 := ((hFvy28 13 (by decide)).trans (fn rfl (by decide)))
          have hkpy210 : Fvy28 14 = F 14 := ((hFvy28 14 (by decide)).trans (fn rfl (by decide)))
          have hkpy211 : Fvy28 15 = F 15 := ((hFvy28 15 (by decide)).trans (fn rfl (by decide)))
          have hkpy212 : Fvy28 16 = F 16 := ((hFvy28 16 (by decide)).trans (fn rfl (by decide)))
          have hkpy213 : Fvy28 17 = F 17 := ((hFvy28 17 (by decide)).trans (fn rfl (by decide)))
          have hkpy214 : Fvy28 18 = F 18 := ((hFvy28 18 (by decide)).trans (fn rfl (by decide)))
          have hkpy215 : Fvy28 19 = F 19 := ((hFvy28 19 (by decide)).trans (fn rfl (by decide)))
          have hkpy216 : Fvy28 20 = F 20 := ((hFvy28 20 (by decide)).trans (fn rfl (by decide)))
          have hkpy217 : Fvy28 21 = F 21 := ((hFvy28 21 (by decide)).trans (fn rfl (by decide)))
          have hkpy218 : Fvy28 23 = F 23 := ((hFvy28 23 (by decide)).trans (fn rfl (by decide)))
          have hkpy219 : Fvy28 24 = F 24 := ((hFvy28 24 (by decide)).trans (fn rfl (by decide)))
          have hkpy220 : Fvy28 25 = F 25 := ((hFvy28 25 (by decide)).trans (fn rfl (by decide)))
          have hkpy221 : Fvy28 26 = F 26 := ((hFvy28 26 (by decide)).trans (fn rfl (by decide)))
          have hkpy222 : Fvy28 27 = F 27 := ((hFvy28 27 (by decide)).trans (fn rfl (by decide)))
          have hkpy223 : Fvy28 29 = F 29 := ((hFvy28 29 (by decide)).trans (fn rfl (by decide)))
          exact z_iret C hr hlk dX10_count_117 (by decide) (by decide) ⟨vy191, rfl, rfl, rfl, by omega, ⟨_, _, hMy208, ⟨hkpy209, hkpy210, hkpy211, hkpy212, hkpy213, hkpy214, hkpy215, hkpy216, hkpy217, hkpy218, hkpy219⟩, ⟨(hkpy220.trans hp25), (hkpy221.trans hp26), (hkpy222.trans hp27), (hkpy223.trans hp29)⟩, (fun j _ => rfl)⟩, fun j j1 => by rw [hfvy28 _ (by omega)]; rw [egy25, va_up_ne _ _ (by omega)]⟩
        · refine z_tin (off := 95) (tgt := 118) C dX10_count_23 (by omega) (by omega) (by omega) rfl (by decide) ?_
          refine z_aload_n C 0 dX10_count_118 rfl ?_
          refine z_get (v := .ref (ad (i + 1))) C (lt_A0 hN rfl) hay1 hcvy28 rfl inA_X10 0 (by decide) q_1459 rfl rfl dX10_count_119 ?_
          refine z_iconst (z := 1) C dX10_count_122 rfl ?_
          have hgy224 := up_n egy25 ha1 (ne_o (i := i) (c := 1) (d := 0) rfl)
          have hgy225 := (hfvy28 (i + 1) (ne_o (i := i) (c := 1) (d := 0) rfl)).trans hgy224
          refine z_iald C (lt_A (c := 1) hN rfl) hay2 hgy225 (1) (by omega) (by omega) (by decide) dX10_count_123 ?_
          have hFy226 : ∀ f, f ≠ 12 → Fvy28 f = F f := fun f n12 => ((hFvy28 f n12).trans ((uZ_n _ _ n12).trans rfl))
          have hey227 : Fvy28 13 = F 13 := ((hFvy28 13 (by decide)).trans (fn rfl (by decide)))
          have hey228 : Fvy28 14 = F 14 := ((hFvy28 14 (by decide)).trans (fn rfl (by decide)))
          have hey229 : Fvy28 15 = F 15 := ((hFvy28 15 (by decide)).trans (fn rfl (by decide)))
          have hey230 : Fvy28 16 = F 16 := ((hFvy28 16 (by decide)).trans (fn rfl (by decide)))
          have hey231 : Fvy28 17 = F 17 := ((hFvy28 17 (by decide)).trans (fn rfl (by decide)))
          have hey232 : Fvy28 18 = F 18 := ((hFvy28 18 (by decide)).trans (fn rfl (by decide)))
          have hey233 : Fvy28 19 = F 19 := ((hFvy28 19 (by decide)).trans (fn rfl (by decide)))
          have hey234 : Fvy28 20 = F 20 := ((hFvy28 20 (by decide)).trans (fn rfl (by decide)))
          have hey235 : Fvy28 21 = F 21 := ((hFvy28 21 (by decide)).trans (fn rfl (by decide)))
          have hey236 : Fvy28 23 = F 23 := ((hFvy28 23 (by decide)).trans (fn rfl (by decide)))
          have hey237 : Fvy28 25 = F 25 := ((hFvy28 25 (by decide)).trans (fn rfl (by decide)))
          have hey238 : Fvy28 27 = F 27 := ((hFvy28 27 (by decide)).trans (fn rfl (by decide)))
          have hey239 : Fvy28 28 = F 28 := ((hFvy28 28 (by decide)).trans (fn rfl (by decide)))
          have hey240 : Fvy28 29 = F 29 := ((hFvy28 29 (by decide)).trans (fn rfl (by decide)))
          have hKy241 : okF Fvy28 := okF.mv hM.2.1 hey227 hey228 hey229 hey230 hey231 hey232 hey233 hey234 hey235 hey236 hey237 hey238 hey239 hey240
          have hMy242 : okMr cs ad gvy28 i (x + 1) Fvy28 r st op ai fa mu tb tp := okMr.upd hM hcvy28 hKy241 (fun f a => hFy226 f (by omega)) hgy225 (hA.mono (by omega)) (fun j a b => by
              exact Or.inl (by rw [hfvy28 _ (by omega)]; rw [egy25, va_up_ne _ _ (by omega)]))
          have hkpy243 : Fvy28 13 = F 13 := ((hFvy28 13 (by decide)).trans (fn rfl (by decide)))
          have hkpy244 : Fvy28 14 = F 14 := ((hFvy28 14 (by decide)).trans (fn rfl (by decide)))
          have hkpy245 : Fvy28 15 = F 15 := ((hFvy28 15 (by decide)).trans (fn rfl (by decide)))
          have hkpy246 : Fvy28 16 = F 16 := ((hFvy28 16 (by decide)).trans (fn rfl (by decide)))
          have hkpy247 : Fvy28 17 = F 17 := ((hFvy28 17 (by decide)).trans (fn rfl (by decide)))
          have hkpy248 : Fvy28 18 = F 18 := ((hFvy28 18 (by decide)).trans (fn rfl (by decide)))
          have hkpy249 : Fvy28 19 = F 19 := ((hFvy28 19 (by decide)).trans (fn rfl (by decide)))
          have hkpy250 : Fvy28 20 = F 20 := ((hFvy28 20 (by decide)).trans (fn rfl (by decide)))
          have hkpy251 : Fvy28 21 = F 21 := ((hFvy28 21 (by decide)).trans (fn rfl (by decide)))
          have hkpy252 : Fvy28 23 = F 23 := ((hFvy28 23 (by decide)).trans (fn rfl (by decide)))
          have hkpy253 : Fvy28 24 = F 24 := ((hFvy28 24 (by decide)).trans (fn rfl (by decide)))
          have hkpy254 : Fvy28 25 = F 25 := ((hFvy28 25 (by decide)).trans (fn rfl (by decide)))
          have hkpy255 : Fvy28 26 = F 26 := ((hFvy28 26 (by decide)).trans (fn rfl (by decide)))
          have hkpy256 : Fvy28 27 = F 27 := ((hFvy28 27 (by decide)).trans (fn rfl (by decide)))
          have hkpy257 : Fvy28 29 = F 29 := ((hFvy28 29 (by decide)).trans (fn rfl (by decide)))
          exact z_iret C hr hlk dX10_count_124 (by decide) (by decide) ⟨r (1), rfl, rfl, rfl, by omega, ⟨_, _, hMy242, ⟨hkpy243, hkpy244, hkpy245, hkpy246, hkpy247, hkpy248, hkpy249, hkpy250, hkpy251, hkpy252, hkpy253⟩, ⟨(hkpy254.trans hp25), (hkpy255.trans hp26), (hkpy256.trans hp27), (hkpy257.trans hp29)⟩, (fun j _ => rfl)⟩, fun j j1 => by rw [hfvy28 _ (by omega)]; rw [egy25, va_up_ne _ _ (by omega)]⟩
        · refine z_tin (off := 102) (tgt := 125) C dX10_count_23 (by omega) (by omega) (by omega) rfl (by decide) ?_
          refine z_aload_n C 0 dX10_count_125 rfl ?_
          have hgy258 := up_n egy25 ha1 (ne_o (i := i) (c := 1) (d := 0) rfl)
          have hgy259 := (hfvy28 (i + 1) (ne_o (i := i) (c := 1) (d := 0) rfl)).trans hgy258
          have hFy260 : ∀ f, f ≠ 12 → Fvy28 f = F f := fun f n12 => ((hFvy28 f n12).trans ((uZ_n _ _ n12).trans rfl))
          have hey261 : Fvy28 13 = F 13 := ((hFvy28 13 (by decide)).trans (fn rfl (by decide)))
          have hey262 : Fvy28 14 = F 14 := ((hFvy28 14 (by decide)).trans (fn rfl (by decide)))
          have hey263 : Fvy28 15 = F 15 := ((hFvy28 15 (by decide)).trans (fn rfl (by decide)))
          have hey264 : Fvy28 16 = F 16 := ((hFvy28 16 (by decide)).trans (fn rfl (by decide)))
          have hey265 : Fvy28 17 = F 17 := ((hFvy28 17 (by decide)).trans (fn rfl (by decide)))
          have hey266 : Fvy28 18 = F 18 := ((hFvy28 18 (by decide)).trans (fn rfl (by decide)))
          have hey267 : Fvy28 19 = F 19 := ((hFvy28 19 (by decide)).trans (fn rfl (by decide)))
          have hey268 : Fvy28 20 = F 20 := ((hFvy28 20 (by decide)).trans (fn rfl (by decide)))
          have hey269 : Fvy28 21 = F 21 := ((hFvy28 21 (by decide)).trans (fn rfl (by decide)))
          have hey270 : Fvy28 23 = F 23 := ((hFvy28 23 (by decide)).trans (fn rfl (by decide)))
          have hey271 : Fvy28 25 = F 25 := ((hFvy28 25 (by decide)).trans (fn rfl (by decide)))
          have hey272 : Fvy28 27 = F 27 := ((hFvy28 27 (by decide)).trans (fn rfl (by decide)))
          have hey273 : Fvy28 28 = F 28 := ((hFvy28 28 (by decide)).trans (fn rfl (by decide)))
          have hey274 : Fvy28 29 = F 29 := ((hFvy28 29 (by decide)).trans (fn rfl (by decide)))
          have hKy275 : okF Fvy28 := okF.mv hM.2.1 hey261 hey262 hey263 hey264 hey265 hey266 hey267 hey268 hey269 hey270 hey271 hey272 hey273 hey274
          have hMy276 : okMr cs ad gvy28 i (x) Fvy28 r st op ai fa mu tb tp := okMr.upd hM hcvy28 hKy275 (fun f a => hFy260 f (by omega)) hgy259 (hA.mono (by omega)) (fun j a b => by
              exact Or.inl (by rw [hfvy28 _ (by omega)]; rw [egy25, va_up_ne _ _ (by omega)]))
          refine z_cV (As := []) (rest := []) (ci := 12) C (c_X10_allRunoff l D A cs tt N ad _ i hN x hx _ _ hMy276 ) (lt_A0 hN rfl) hay1 hcvy28 rfl rfl mv_yX10_allRunoff q_1737 hd_yX10_allRunoff (by decide) (Nat.le_of_ble_eq_true rfl) (by decide) dX10_count_126 rfl (kI0 fun vy277 gvy277 hvy277 => ?_)
          obtain ⟨hvy277, rfl⟩ := hvy277
          have hFy278 : ∀ f, f ≠ 12 → Fvy28 f = F f := fun f n12 => ((hFvy28 f n12).trans ((uZ_n _ _ n12).trans rfl))
          have hey279 : Fvy28 13 = F 13 := ((hFvy28 13 (by decide)).trans (fn rfl (by decide)))
          have hey280 : Fvy28 14 = F 14 := ((hFvy28 14 (by decide)).trans (fn rfl (by decide)))
          have hey281 : Fvy28 15 = F 15 := ((hFvy28 15 (by decide)).trans (fn rfl (by decide)))
          have hey282 : Fvy28 16 = F 16 := ((hFvy28 16 (by decide)).trans (fn rfl (by decide)))
          have hey283 : Fvy28 17 = F 17 := ((hFvy28 17 (by decide)).trans (fn rfl (by decide)))
          have hey284 : Fvy28 18 = F 18 := ((hFvy28 18 (by decide)).trans (fn rfl (by decide)))
          have hey285 : Fvy28 19 = F 19 := ((hFvy28 19 (by decide)).trans (fn rfl (by decide)))
          have hey286 : Fvy28 20 = F 20 := ((hFvy28 20 (by decide)).trans (fn rfl (by decide)))
          have hey287 : Fvy28 21 = F 21 := ((hFvy28 21 (by decide)).trans (fn rfl (by decide)))
          have hey288 : Fvy28 23 = F 23 := ((hFvy28 23 (by decide)).trans (fn rfl (by decide)))
          have hey289 : Fvy28 25 = F 25 := ((hFvy28 25 (by decide)).trans (fn rfl (by decide)))
          have hey290 : Fvy28 27 = F 27 := ((hFvy28 27 (by decide)).trans (fn rfl (by decide)))
          have hey291 : Fvy28 28 = F 28 := ((hFvy28 28 (by decide)).trans (fn rfl (by decide)))
          have hey292 : Fvy28 29 = F 29 := ((hFvy28 29 (by decide)).trans (fn rfl (by decide)))
          have hKy293 : okF Fvy28 := okF.mv hM.2.1 hey279 hey280 hey281 hey282 hey283 hey284 hey285 hey286 hey287 hey288 hey289 hey290 hey291 hey292
          have hMy294 : okMr cs ad gvy28 i (x + 1) Fvy28 r st op ai fa mu tb tp := okMr.upd hM hcvy28 hKy293 (fun f a => hFy278 f (by omega)) hgy259 (hA.mono (by omega)) (fun j a b => by
              exact Or.inl (by rw [hfvy28 _ (by omega)]; rw [egy25, va_up_ne _ _ (by omega)]))
          have hkpy295 : Fvy28 13 = F 13 := ((hFvy28 13 (by decide)).trans (fn rfl (by decide)))
          have hkpy296 : Fvy28 14 = F 14 := ((hFvy28 14 (by decide)).trans (fn rfl (by decide)))
          have hkpy297 : Fvy28 15 = F 15 := ((hFvy28 15 (by decide)).trans (fn rfl (by decide)))
          have hkpy298 : Fvy28 16 = F 16 := ((hFvy28 16 (by decide)).trans (fn rfl (by decide)))
          have hkpy299 : Fvy28 17 = F 17 := ((hFvy28 17 (by decide)).trans (fn rfl (by decide)))
          have hkpy300 : Fvy28 18 = F 18 := ((hFvy28 18 (by decide)).trans (fn rfl (by decide)))
          have hkpy301 : Fvy28 19 = F 19 := ((hFvy28 19 (by decide)).trans (fn rfl (by decide)))
          have hkpy302 : Fvy28 20 = F 20 := ((hFvy28 20 (by decide)).trans (fn rfl (by decide)))
          have hkpy303 : Fvy28 21 = F 21 := ((hFvy28 21 (by decide)).trans (fn rfl (by decide)))
          have hkpy304 : Fvy28 23 = F 23 := ((hFvy28 23 (by decide)).trans (fn rfl (by decide)))
          have hkpy305 : Fvy28 24 = F 24 := ((hFvy28 24 (by decide)).trans (fn rfl (by decide)))
          have hkpy306 : Fvy28 25 = F 25 := ((hFvy28 25 (by decide)).trans (fn rfl (by decide)))
          have hkpy307 : Fvy28 26 = F 26 := ((hFvy28 26 (by decide)).trans (fn rfl (by decide)))
          have hkpy308 : Fvy28 27 = F 27 := ((hFvy28 27 (by decide)).trans (fn rfl (by decide)))
          have hkpy309 : Fvy28 29 = F 29 := ((hFvy28 29 (by decide)).trans (fn rfl (by decide)))
          exact z_iret C hr hlk dX10_count_129 (by decide) (by decide) ⟨vy277, rfl, rfl, rfl, by omega, ⟨_, _, hMy294, ⟨hkpy295, hkpy296, hkpy297, hkpy298, hkpy299, hkpy300, hkpy301, hkpy302, hkpy303, hkpy304, hkpy305⟩, ⟨(hkpy306.trans hp25), (hkpy307.trans hp26), (hkpy308.trans hp27), (hkpy309.trans hp29)⟩, (fun j _ => rfl)⟩, fun j j1 => by rw [hfvy28 _ (by omega)]; rw [egy25, va_up_ne _ _ (by omega)]⟩
        · refine z_tin (off := 107) (tgt := 130) C dX10_count_23 (by omega) (by omega) (by omega) rfl (by decide) ?_
          refine z_aload_n C 0 dX10_count_130 rfl ?_
          refine z_get (v := .ref (ad (i + 1))) C (lt_A0 hN rfl) hay1 hcvy28 rfl inA_X10 0 (by decide) q_1459 rfl rfl dX10_count_131 ?_
          refine z_iconst (z := 2) C dX10_count_134 rfl ?_
          have hgy310 := up_n egy25 ha1 (ne_o (i := i) (c := 1) (d := 0) rfl)
          have hgy311 := (hfvy28 (i + 1) (ne_o (i := i) (c := 1) (d := 0) rfl)).trans hgy310
          refine z_iald C (lt_A (c := 1) hN rfl) hay2 hgy311 (2) (by omega) (by omega) (by decide) dX10_count_135 ?_
          obtain ⟨xy312, exy313, hxy314⟩ := zI_of (zI (r (2)))
          rw [exy313]
          have hFy315 : ∀ f, f ≠ 12 → Fvy28 f = F f := fun f n12 => ((hFvy28 f n12).trans ((uZ_n _ _ n12).trans rfl))
          have hey316 : Fvy28 13 = F 13 := ((hFvy28 13 (by decide)).trans (fn rfl (by decide)))
          have hey317 : Fvy28 14 = F 14 := ((hFvy28 14 (by decide)).trans (fn rfl (by decide)))
          have hey318 : Fvy28 15 = F 15 := ((hFvy28 15 (by decide)).trans (fn rfl (by decide)))
          have hey319 : Fvy28 16 = F 16 := ((hFvy28 16 (by decide)).trans (fn rfl (by decide)))
          have hey320 : Fvy28 17 = F 17 := ((hFvy28 17 (by decide)).trans (fn rfl (by decide)))
          have hey321 : Fvy28 18 = F 18 := ((hFvy28 18 (by decide)).trans (fn rfl (by decide)))
          have hey322 : Fvy28 19 = F 19 := ((hFvy28 19 (by decide)).trans (fn rfl (by decide)))
          have hey323 : Fvy28 20 = F 20 := ((hFvy28 20 (by decide)).trans (fn rfl (by decide)))
          have hey324 : Fvy28 21 = F 21 := ((hFvy28 21 (by decide)).trans (fn rfl (by decide)))
          have hey325 : Fvy28 23 = F 23 := ((hFvy28 23 (by decide)).trans (fn rfl (by decide)))
          have hey326 : Fvy28 25 = F 25 := ((hFvy28 25 (by decide)).trans (fn rfl (by decide)))
          have hey327 : Fvy28 27 = F 27 := ((hFvy28 27 (by decide)).trans (fn rfl (by decide)))
          have hey328 : Fvy28 28 = F 28 := ((hFvy28 28 (by decide)).trans (fn rfl (by decide)))
          have hey329 : Fvy28 29 = F 29 := ((hFvy28 29 (by decide)).trans (fn rfl (by decide)))
          have hKy330 : okF Fvy28 := okF.mv hM.2.1 hey316 hey317 hey318 hey319 hey320 hey321 hey322 hey323 hey324 hey325 hey326 hey327 hey328 hey329
          have hMy331 : okMr cs ad gvy28 i (x + 1) Fvy28 r st op ai fa mu tb tp := okMr.upd hM hcvy28 hKy330 (fun f a => hFy315 f (by omega)) hgy311 (hA.mono (by omega)) (fun j a b => by
              exact Or.inl (by rw [hfvy28 _ (by omega)]; rw [egy25, va_up_ne _ _ (by omega)]))
          have hkpy332 : Fvy28 13 = F 13 := ((hFvy28 13 (by decide)).trans (fn rfl (by decide)))
          have hkpy333 : Fvy28 14 = F 14 := ((hFvy28 14 (by decide)).trans (fn rfl (by decide)))
          have hkpy334 : Fvy28 15 = F 15 := ((hFvy28 15 (by decide)).trans (fn rfl (by decide)))
          have hkpy335 : Fvy28 16 = F 16 := ((hFvy28 16 (by decide)).trans (fn rfl (by decide)))
          have hkpy336 : Fvy28 17 = F 17 := ((hFvy28 17 (by decide)).trans (fn rfl (by decide)))
          have hkpy337 : Fvy28 18 = F 18 := ((hFvy28 18 (by decide)).trans (fn rfl (by decide)))
          have hkpy338 : Fvy28 19 = F 19 := ((hFvy28 19 (by decide)).trans (fn rfl (by decide)))
          have hkpy339 : Fvy28 20 = F 20 := ((hFvy28 20 (by decide)).trans (fn rfl (by decide)))
          have hkpy340 : Fvy28 21 = F 21 := ((hFvy28 21 (by decide)).trans (fn rfl (by decide)))
          have hkpy341 : Fvy28 23 = F 23 := ((hFvy28 23 (by decide)).trans (fn rfl (by decide)))
          have hkpy342 : Fvy28 24 = F 24 := ((hFvy28 24 (by decide)).trans (fn rfl (by decide)))
          have hkpy343 : Fvy28 25 = F 25 := ((hFvy28 25 (by decide)).trans (fn rfl (by decide)))
          have hkpy344 : Fvy28 26 = F 26 := ((hFvy28 26 (by decide)).trans (fn rfl (by decide)))
          have hkpy345 : Fvy28 27 = F 27 := ((hFvy28 27 (by decide)).trans (fn rfl (by decide)))
          have hkpy346 : Fvy28 29 = F 29 := ((hFvy28 29 (by decide)).trans (fn rfl (by decide)))
          exact z_iret C hr hlk dX10_count_136 (by decide) (by decide) ⟨xy312, rfl, rfl, rfl, by omega, ⟨_, _, hMy331, ⟨hkpy332, hkpy333, hkpy334, hkpy335, hkpy336, hkpy337, hkpy338, hkpy339, hkpy340, hkpy341, hkpy342⟩, ⟨(hkpy343.trans hp25), (hkpy344.trans hp26), (hkpy345.trans hp27), (hkpy346.trans hp29)⟩, (fun j _ => rfl)⟩, fun j j1 => by rw [hfvy28 _ (by omega)]; rw [egy25, va_up_ne _ _ (by omega)]⟩
        · refine z_tin (off := 114) (tgt := 137) C dX10_count_23 (by omega) (by omega) (by omega) rfl (by decide) ?_
          refine z_aload_n C 0 dX10_count_137 rfl ?_
          refine z_get (v := .ref (ad (i + 1))) C (lt_A0 hN rfl) hay1 hcvy28 rfl inA_X10 0 (by decide) q_1459 rfl rfl dX10_count_138 ?_
          refine z_iconst (z := 3) C dX10_count_141 rfl ?_
          have hgy347 := up_n egy25 ha1 (ne_o (i := i) (c := 1) (d := 0) rfl)
          have hgy348 := (hfvy28 (i + 1) (ne_o (i := i) (c := 1) (d := 0) rfl)).trans hgy347
          refine z_iald C (lt_A (c := 1) hN rfl) hay2 hgy348 (3) (by omega) (by omega) (by decide) dX10_count_142 ?_
          obtain ⟨xy349, exy350, hxy351⟩ := zI_of (zI (r (3)))
          rw [exy350]
          have hFy352 : ∀ f, f ≠ 12 → Fvy28 f = F f := fun f n12 => ((hFvy28 f n12).trans ((uZ_n _ _ n12).trans rfl))
          have hey353 : Fvy28 13 = F 13 := ((hFvy28 13 (by decide)).trans (fn rfl (by decide)))
          have hey354 : Fvy28 14 = F 14 := ((hFvy28 14 (by decide)).trans (fn rfl (by decide)))
          have hey355 : Fvy28 15 = F 15 := ((hFvy28 15 (by decide)).trans (fn rfl (by decide)))
          have hey356 : Fvy28 16 = F 16 := ((hFvy28 16 (by decide)).trans (fn rfl (by decide)))
          have hey357 : Fvy28 17 = F 17 := ((hFvy28 17 (by decide)).trans (fn rfl (by decide)))
          have hey358 : Fvy28 18 = F 18 := ((hFvy28 18 (by decide)).trans (fn rfl (by decide)))
          have hey359 : Fvy28 19 = F 19 := ((hFvy28 19 (by decide)).trans (fn rfl (by decide)))
          have hey360 : Fvy28 20 = F 20 := ((hFvy28 20 (by decide)).trans (fn rfl (by decide)))
          have hey361 : Fvy28 21 = F 21 := ((hFvy28 21 (by decide)).trans (fn rfl (by decide)))
          have hey362 : Fvy28 23 = F 23 := ((hFvy28 23 (by decide)).trans (fn rfl (by decide)))
          have hey363 : Fvy28 25 = F 25 := ((hFvy28 25 (by decide)).trans (fn rfl (by decide)))
          have hey364 : Fvy28 27 = F 27 := ((hFvy28 27 (by decide)).trans (fn rfl (by decide)))
          have hey365 : Fvy28 28 = F 28 := ((hFvy28 28 (by decide)).trans (fn rfl (by decide)))
          have hey366 : Fvy28 29 = F 29 := ((hFvy28 29 (by decide)).trans (fn rfl (by decide)))
          have hKy367 : okF Fvy28 := okF.mv hM.2.1 hey353 hey354 hey355 hey356 hey357 hey358 hey359 hey360 hey361 hey362 hey363 hey364 hey365 hey366
          have hMy368 : okMr cs ad gvy28 i (x + 1) Fvy28 r st op ai fa mu tb tp := okMr.upd hM hcvy28 hKy367 (fun f a => hFy352 f (by omega)) hgy348 (hA.mono (by omega)) (fun j a b => by
              exact Or.inl (by rw [hfvy28 _ (by omega)]; rw [egy25, va_up_ne _ _ (by omega)]))
          have hkpy369 : Fvy28 13 = F 13 := ((hFvy28 13 (by decide)).trans (fn rfl (by decide)))
          have hkpy370 : Fvy28 14 = F 14 := ((hFvy28 14 (by decide)).trans (fn rfl (by decide)))
          have hkpy371 : Fvy28 15 = F 15 := ((hFvy28 15 (by decide)).trans (fn rfl (by decide)))
          have hkpy372 : Fvy28 16 = F 16 := ((hFvy28 16 (by decide)).trans (fn rfl (by decide)))
          have hkpy373 : Fvy28 17 = F 17 := ((hFvy28 17 (by decide)).trans (fn rfl (by decide)))
          have hkpy374 : Fvy28 18 = F 18 := ((hFvy28 18 (by decide)).trans (fn rfl (by decide)))
          have hkpy375 : Fvy28 19 = F 19 := ((hFvy28 19 (by decide)).trans (fn rfl (by decide)))
          have hkpy376 : Fvy28 20 = F 20 := ((hFvy28 20 (by decide)).trans (fn rfl (by decide)))
          have hkpy377 : Fvy28 21 = F 21 := ((hFvy28 21 (by decide)).trans (fn rfl (by decide)))
          have hkpy378 : Fvy28 23 = F 23 := ((hFvy28 23 (by decide)).trans (fn rfl (by decide)))
          have hkpy379 : Fvy28 24 = F 24 := ((hFvy28 24 (by decide)).trans (fn rfl (by decide)))
          have hkpy380 : Fvy28 25 = F 25 := ((hFvy28 25 (by decide)).trans (fn rfl (by decide)))
          have hkpy381 : Fvy28 26 = F 26 := ((hFvy28 26 (by decide)).trans (fn rfl (by decide)))
          have hkpy382 : Fvy28 27 = F 27 := ((hFvy28 27 (by decide)).trans (fn rfl (by decide)))
          have hkpy383 : Fvy28 29 = F 29 := ((hFvy28 29 (by decide)).trans (fn rfl (by decide)))
          exact z_iret C hr hlk dX10_count_143 (by decide) (by decide) ⟨xy349, rfl, rfl, rfl, by omega, ⟨_, _, hMy368, ⟨hkpy369, hkpy370, hkpy371, hkpy372, hkpy373, hkpy374, hkpy375, hkpy376, hkpy377, hkpy378, hkpy379⟩, ⟨(hkpy380.trans hp25), (hkpy381.trans hp26), (hkpy382.trans hp27), (hkpy383.trans hp29)⟩, (fun j _ => rfl)⟩, fun j j1 => by rw [hfvy28 _ (by omega)]; rw [egy25, va_up_ne _ _ (by omega)]⟩
        · refine z_tin (off := 121) (tgt := 144) C dX10_count_23 (by omega) (by omega) (by omega) rfl (by decide) ?_
          refine z_aload_n C 0 dX10_count_144 rfl ?_
          refine z_get (v := .ref (ad (i + 1))) C (lt_A0 hN rfl) hay1 hcvy28 rfl inA_X10 0 (by decide) q_1459 rfl rfl dX10_count_145 ?_
          refine z_iconst (z := 4) C dX10_count_148 rfl ?_
          have hgy384 := up_n egy25 ha1 (ne_o (i := i) (c := 1) (d := 0) rfl)
          have hgy385 := (hfvy28 (i + 1) (ne_o (i := i) (c := 1) (d := 0) rfl)).trans hgy384
          refine z_iald C (lt_A (c := 1) hN rfl) hay2 hgy385 (4) (by omega) (by omega) (by decide) dX10_count_149 ?_
          obtain ⟨xy386, exy387, hxy388⟩ := zI_of (zI (r (4)))
          rw [exy387]
          have hFy389 : ∀ f, f ≠ 12 → Fvy28 f = F f := fun f n12 => ((hFvy28 f n12).trans ((uZ_n _ _ n12).trans rfl))
          have hey390 : Fvy28 13 = F 13 := ((hFvy28 13 (by decide)).trans (fn rfl (by decide)))
          have hey391 : Fvy28 14 = F 14 := ((hFvy28 14 (by decide)).trans (fn rfl (by decide)))
          have hey392 : Fvy28 15 = F 15 := ((hFvy28 15 (by decide)).trans (fn rfl (by decide)))
          have hey393 : Fvy28 16 = F 16 := ((hFvy28 16 (by decide)).trans (fn rfl (by decide)))
          have hey394 : Fvy28 17 = F 17 := ((hFvy28 17 (by decide)).trans (fn rfl (by decide)))
          have hey395 : Fvy28 18 = F 18 := ((hFvy28 18 (by decide)).trans (fn rfl (by decide)))
          have hey396 : Fvy28 19 = F 19 := ((hFvy28 19 (by decide)).trans (fn rfl (by decide)))
          have hey397 : Fvy28 20 = F 20 := ((hFvy28 20 (by decide)).trans (fn rfl (by decide)))
          have hey398 : Fvy28 21 = F 21 := ((hFvy28 21 (by decide)).trans (fn rfl (by decide)))
          have hey399 : Fvy28 23 = F 23 := ((hFvy28 23 (by decide)).trans (fn rfl (by decide)))
          have hey400 : Fvy28 25 = F 25 := ((hFvy28 25 (by decide)).trans (fn rfl (by decide)))
          have hey401 : Fvy28 27 = F 27 := ((hFvy28 27 (by decide)).trans (fn rfl (by decide)))
          have hey402 : Fvy28 28 = F 28 := ((hFvy28 28 (by decide)).trans (fn rfl (by decide)))
          have hey403 : Fvy28 29 = F 29 := ((hFvy28 29 (by decide)).trans (fn rfl (by decide)))
          have hKy404 : okF Fvy28 := okF.mv hM.2.1 hey390 hey391 hey392 hey393 hey394 hey395 hey396 hey397 hey398 hey399 hey400 hey401 hey402 hey403
          have hMy405 : okMr cs ad gvy28 i (x + 1) Fvy28 r st op ai fa mu tb tp := okMr.upd hM hcvy28 hKy404 (fun f a => hFy389 f (by omega)) hgy385 (hA.mono (by omega)) (fun j a b => by
              exact Or.inl (by rw [hfvy28 _ (by omega)]; rw [egy25, va_up_ne _ _ (by omega)]))
          have hkpy406 : Fvy28 13 = F 13 := ((hFvy28 13 (by decide)).trans (fn rfl (by decide)))
          have hkpy407 : Fvy28 14 = F 14 := ((hFvy28 14 (by decide)).trans (fn rfl (by decide)))
          have hkpy408 : Fvy28 15 = F 15 := ((hFvy28 15 (by decide)).trans (fn rfl (by decide)))
          have hkpy409 : Fvy28 16 = F 16 := ((hFvy28 16 (by decide)).trans (fn rfl (by decide)))
          have hkpy410 : Fvy28 17 = F 17 := ((hFvy28 17 (by decide)).trans (fn rfl (by decide)))
          have hkpy411 : Fvy28 18 = F 18 := ((hFvy28 18 (by decide)).trans (fn rfl (by decide)))
          have hkpy412 : Fvy28 19 = F 19 := ((hFvy28 19 (by decide)).trans (fn rfl (by decide)))
          have hkpy413 : Fvy28 20 = F 20 := ((hFvy28 20 (by decide)).trans (fn rfl (by decide)))
          have hkpy414 : Fvy28 21 = F 21 := ((hFvy28 21 (by decide)).trans (fn rfl (by decide)))
          have hkpy415 : Fvy28 23 = F 23 := ((hFvy28 23 (by decide)).trans (fn rfl (by decide)))
          have hkpy416 : Fvy28 24 = F 24 := ((hFvy28 24 (by decide)).trans (fn rfl (by decide)))
          have hkpy417 : Fvy28 25 = F 25 := ((hFvy28 25 (by decide)).trans (fn rfl (by decide)))
          have hkpy418 : Fvy28 26 = F 26 := ((hFvy28 26 (by decide)).trans (fn rfl (by decide)))
          have hkpy419 : Fvy28 27 = F 27 := ((hFvy28 27 (by decide)).trans (fn rfl (by decide)))
          have hkpy420 : Fvy28 29 = F 29 := ((hFvy28 29 (by decide)).trans (fn rfl (by decide)))
          exact z_iret C hr hlk dX10_count_150 (by decide) (by decide) ⟨xy386, rfl, rfl, rfl, by omega, ⟨_, _, hMy405, ⟨hkpy406, hkpy407, hkpy408, hkpy409, hkpy410, hkpy411, hkpy412, hkpy413, hkpy414, hkpy415, hkpy416⟩, ⟨(hkpy417.trans hp25), (hkpy418.trans hp26), (hkpy419.trans hp27), (hkpy420.trans hp29)⟩, (fun j _ => rfl)⟩, fun j j1 => by rw [hfvy28 _ (by omega)]; rw [egy25, va_up_ne _ _ (by omega)]⟩
        · refine z_tin (off := 128) (tgt := 151) C dX10_count_23 (by omega) (by omega) (by omega) rfl (by decide) ?_
          refine z_aload_n C 0 dX10_count_151 rfl ?_
          have hgy421 := up_n egy25 ha1 (ne_o (i := i) (c := 1) (d := 0) rfl)
          have hgy422 := (hfvy28 (i + 1) (ne_o (i := i) (c := 1) (d := 0) rfl)).trans hgy421
          have hFy423 : ∀ f, f ≠ 12 → Fvy28 f = F f := fun f n12 => ((hFvy28 f n12).trans ((uZ_n _ _ n12).trans rfl))
          have hey424 : Fvy28 13 = F 13 := ((hFvy28 13 (by decide)).trans (fn rfl (by decide)))
          have hey425 : Fvy28 14 = F 14 := ((hFvy28 14 (by decide)).trans (fn rfl (by decide)))
          have hey426 : Fvy28 15 = F 15 := ((hFvy28 15 (by decide)).trans (fn rfl (by decide)))
          have hey427 : Fvy28 16 = F 16 := ((hFvy28 16 (by decide)).trans (fn rfl (by decide)))
          have hey428 : Fvy28 17 = F 17 := ((hFvy28 17 (by decide)).trans (fn rfl (by decide)))
          have hey429 : Fvy28 18 = F 18 := ((hFvy28 18 (by decide)).trans (fn rfl (by decide)))
          have hey430 : Fvy28 19 = F 19 := ((hFvy28 19 (by decide)).trans (fn rfl (by decide)))
          have hey431 : Fvy28 20 = F 20 := ((hFvy28 20 (by decide)).trans (fn rfl (by decide)))
          have hey432 : Fvy28 21 = F 21 := ((hFvy28 21 (by decide)).trans (fn rfl (by decide)))
          have hey433 : Fvy28 23 = F 23 := ((hFvy28 23 (by decide)).trans (fn rfl (by decide)))
          have hey434 : Fvy28 25 = F 25 := ((hFvy28 25 (by decide)).trans (fn rfl (by decide)))
          have hey435 : Fvy28 27 = F 27 := ((hFvy28 27 (by decide)).trans (fn rfl (by decide)))
          have hey436 : Fvy28 28 = F 28 := ((hFvy28 28 (by decide)).trans (fn rfl (by decide)))
          have hey437 : Fvy28 29 = F 29 := ((hFvy28 29 (by decide)).trans (fn rfl (by decide)))
          have hKy438 : okF Fvy28 := okF.mv hM.2.1 hey424 hey425 hey426 hey427 hey428 hey429 hey430 hey431 hey432 hey433 hey434 hey435 hey436 hey437
          have hMy439 : okMr cs ad gvy28 i (x) Fvy28 r st op ai fa mu tb tp := okMr.upd hM hcvy28 hKy438 (fun f a => hFy423 f (by omega)) hgy422 (hA.mono (by omega)) (fun j a b => by
              exact Or.inl (by rw [hfvy28 _ (by omega)]; rw [egy25, va_up_ne _ _ (by omega)]))
          refine z_cV (As := []) (rest := []) (ci := 12) C (c_X10_allWeight l D A cs tt N ad _ i hN x hx _ _ hMy439 ) (lt_A0 hN rfl) hay1 hcvy28 rfl rfl mv_yX10_allWeight q_1741 hd_yX10_allWeight (by decide) (Nat.le_of_ble_eq_true rfl) (by decide) dX10_count_152 rfl (kI0 fun vy440 gvy440 hvy440 => ?_)
          obtain ⟨hvy440, rfl⟩ := hvy440
          have hFy441 : ∀ f, f ≠ 12 → Fvy28 f = F f := fun f n12 => ((hFvy28 f n12).trans ((uZ_n _ _ n12).trans rfl))
          have hey442 : Fvy28 13 = F 13 := ((hFvy28 13 (by decide)).trans (fn rfl (by decide)))
          have hey443 : Fvy28 14 = F 14 := ((hFvy28 14 (by decide)).trans (fn rfl (by decide)))
          have hey444 : Fvy28 15 = F 15 := ((hFvy28 15 (by decide)).trans (fn rfl (by decide)))
          have hey445 : Fvy28 16 = F 16 := ((hFvy28 16 (by decide)).trans (fn rfl (by decide)))
          have hey446 : Fvy28 17 = F 17 := ((hFvy28 17 (by decide)).trans (fn rfl (by decide)))
          have hey447 : Fvy28 18 = F 18 := ((hFvy28 18 (by decide)).trans (fn rfl (by decide)))
          have hey448 : Fvy28 19 = F 19 := ((hFvy28 19 (by decide)).trans (fn rfl (by decide)))
          have hey449 : Fvy28 20 = F 20 := ((hFvy28 20 (by decide)).trans (fn rfl (by decide)))
          have hey450 : Fvy28 21 = F 21 := ((hFvy28 21 (by decide)).trans (fn rfl (by decide)))
          have hey451 : Fvy28 23 = F 23 := ((hFvy28 23 (by decide)).trans (fn rfl (by decide)))
          have hey452 : Fvy28 25 = F 25 := ((hFvy28 25 (by decide)).trans (fn rfl (by decide)))
          have hey453 : Fvy28 27 = F 27 := ((hFvy28 27 (by decide)).trans (fn rfl (by decide)))
          have hey454 : Fvy28 28 = F 28 := ((hFvy28 28 (by decide)).trans (fn rfl (by decide)))
          have hey455 : Fvy28 29 = F 29 := ((hFvy28 29 (by decide)).trans (fn rfl (by decide)))
          have hKy456 : okF Fvy28 := okF.mv hM.2.1 hey442 hey443 hey444 hey445 hey446 hey447 hey448 hey449 hey450 hey451 hey452 hey453 hey454 hey455
          have hMy457 : okMr cs ad gvy28 i (x + 1) Fvy28 r st op ai fa mu tb tp := okMr.upd hM hcvy28 hKy456 (fun f a => hFy441 f (by omega)) hgy422 (hA.mono (by omega)) (fun j a b => by
              exact Or.inl (by rw [hfvy28 _ (by omega)]; rw [egy25, va_up_ne _ _ (by omega)]))
          have hkpy458 : Fvy28 13 = F 13 := ((hFvy28 13 (by decide)).trans (fn rfl (by decide)))
          have hkpy459 : Fvy28 14 = F 14 := ((hFvy28 14 (by decide)).trans (fn rfl (by decide)))
          have hkpy460 : Fvy28 15 = F 15 := ((hFvy28 15 (by decide)).trans (fn rfl (by decide)))
          have hkpy461 : Fvy28 16 = F 16 := ((hFvy28 16 (by decide)).trans (fn rfl (by decide)))
          have hkpy462 : Fvy28 17 = F 17 := ((hFvy28 17 (by decide)).trans (fn rfl (by decide)))
          have hkpy463 : Fvy28 18 = F 18 := ((hFvy28 18 (by decide)).trans (fn rfl (by decide)))
          have hkpy464 : Fvy28 19 = F 19 := ((hFvy28 19 (by decide)).trans (fn rfl (by decide)))
          have hkpy465 : Fvy28 20 = F 20 := ((hFvy28 20 (by decide)).trans (fn rfl (by decide)))
          have hkpy466 : Fvy28 21 = F 21 := ((hFvy28 21 (by decide)).trans (fn rfl (by decide)))
          have hkpy467 : Fvy28 23 = F 23 := ((hFvy28 23 (by decide)).trans (fn rfl (by decide)))
          have hkpy468 : Fvy28 24 = F 24 := ((hFvy28 24 (by decide)).trans (fn rfl (by decide)))
          have hkpy469 : Fvy28 25 = F 25 := ((hFvy28 25 (by decide)).trans (fn rfl (by decide)))
          have hkpy470 : Fvy28 26 = F 26 := ((hFvy28 26 (by decide)).trans (fn rfl (by decide)))
          have hkpy471 : Fvy28 27 = F 27 := ((hFvy28 27 (by decide)).trans (fn rfl (by decide)))
          have hkpy472 : Fvy28 29 = F 29 := ((hFvy28 29 (by decide)).trans (fn rfl (by decide)))
          exact z_iret C hr hlk dX10_count_155 (by decide) (by decide) ⟨vy440, rfl, rfl, rfl, by omega, ⟨_, _, hMy457, ⟨hkpy458, hkpy459, hkpy460, hkpy461, hkpy462, hkpy463, hkpy464, hkpy465, hkpy466, hkpy467, hkpy468⟩, ⟨(hkpy469.trans hp25), (hkpy470.trans hp26), (hkpy471.trans hp27), (hkpy472.trans hp29)⟩, (fun j _ => rfl)⟩, fun j j1 => by rw [hfvy28 _ (by omega)]; rw [egy25, va_up_ne _ _ (by omega)]⟩
        · refine z_tin (off := 133) (tgt := 156) C dX10_count_23 (by omega) (by omega) (by omega) rfl (by decide) ?_
          refine z_aload_n C 0 dX10_count_156 rfl ?_
          have hgy473 := up_n egy25 ha1 (ne_o (i := i) (c := 1) (d := 0) rfl)
          have hgy474 := (hfvy28 (i + 1) (ne_o (i := i) (c := 1) (d := 0) rfl)).trans hgy473
          have hFy475 : ∀ f, f ≠ 12 → Fvy28 f = F f := fun f n12 => ((hFvy28 f n12).trans ((uZ_n _ _ n12).trans rfl))
          have hey476 : Fvy28 13 = F 13 := ((hFvy28 13 (by decide)).trans (fn rfl (by decide)))
          have hey477 : Fvy28 14 = F 14 := ((hFvy28 14 (by decide)).trans (fn rfl (by decide)))
          have hey478 : Fvy28 15 = F 15 := ((hFvy28 15 (by decide)).trans (fn rfl (by decide)))
          have hey479 : Fvy28 16 = F 16 := ((hFvy28 16 (by decide)).trans (fn rfl (by decide)))
          have hey480 : Fvy28 17 = F 17 := ((hFvy28 17 (by decide)).trans (fn rfl (by decide)))
          have hey481 : Fvy28 18 = F 18 := ((hFvy28 18 (by decide)).trans (fn rfl (by decide)))
          have hey482 : Fvy28 19 = F 19 := ((hFvy28 19 (by decide)).trans (fn rfl (by decide)))
          have hey483 : Fvy28 20 = F 20 := ((hFvy28 20 (by decide)).trans (fn rfl (by decide)))
          have hey484 : Fvy28 21 = F 21 := ((hFvy28 21 (by decide)).trans (fn rfl (by decide)))
          have hey485 : Fvy28 23 = F 23 := ((hFvy28 23 (by decide)).trans (fn rfl (by decide)))
          have hey486 : Fvy28 25 = F 25 := ((hFvy28 25 (by decide)).trans (fn rfl (by decide)))
          have hey487 : Fvy28 27 = F 27 := ((hFvy28 27 (by decide)).trans (fn rfl (by decide)))
          have hey488 : Fvy28 28 = F 28 := ((hFvy28 28 (by decide)).trans (fn rfl (by decide)))
          have hey489 : Fvy28 29 = F 29 := ((hFvy28 29 (by decide)).trans (fn rfl (by decide)))
          have hKy490 : okF Fvy28 := okF.mv hM.2.1 hey476 hey477 hey478 hey479 hey480 hey481 hey482 hey483 hey484 hey485 hey486 hey487 hey488 hey489
          have hMy491 : okMr cs ad gvy28 i (x) Fvy28 r st op ai fa mu tb tp := okMr.upd hM hcvy28 hKy490 (fun f a => hFy475 f (by omega)) hgy474 (hA.mono (by omega)) (fun j a b => by
              exact Or.inl (by rw [hfvy28 _ (by omega)]; rw [egy25, va_up_ne _ _ (by omega)]))
          refine z_cV (As := []) (rest := []) (ci := 12) C (c_X10_worst l D A cs tt N ad _ i hN x hx _ _ hMy491 ) (lt_A0 hN rfl) hay1 hcvy28 rfl rfl mv_yX10_worst q_1756 hd_yX10_worst (by decide) (Nat.le_of_ble_eq_true rfl) (by decide) dX10_count_157 rfl (kI0 fun vy492 gvy492 hvy492 => ?_)
          obtain ⟨hvy492, rfl⟩ := hvy492
          have hFy493 : ∀ f, f ≠ 12 → Fvy28 f = F f := fun f n12 => ((hFvy28 f n12).trans ((uZ_n _ _ n12).trans rfl))
          have hey494 : Fvy28 13 = F 13 := ((hFvy28 13 (by decide)).trans (fn rfl (by decide)))
          have hey495 : Fvy28 14 = F 14 := ((hFvy28 14 (by decide)).trans (fn rfl (by decide)))
          have hey496 : Fvy28 15 = F 15 := ((hFvy28 15 (by decide)).trans (fn rfl (by decide)))
          have hey497 : Fvy28 16 = F 16 := ((hFvy28 16 (by decide)).trans (fn rfl (by decide)))
          have hey498 : Fvy28 17 = F 17 := ((hFvy28 17 (by decide)).trans (fn rfl (by decide)))
          have hey499 : Fvy28 18 = F 18 := ((hFvy28 18 (by decide)).trans (fn rfl (by decide)))
          have hey500 : Fvy28 19 = F 19 := ((hFvy28 19 (by decide)).trans (fn rfl (by decide)))
          have hey501 : Fvy28 20 = F 20 := ((hFvy28 20 (by decide)).trans (fn rfl (by decide)))
          have hey502 : Fvy28 21 = F 21 := ((hFvy28 21 (by decide)).trans (fn rfl (by decide)))
          have hey503 : Fvy28 23 = F 23 := ((hFvy28 23 (by decide)).trans (fn rfl (by decide)))
          have hey504 : Fvy28 25 = F 25 := ((hFvy28 25 (by decide)).trans (fn rfl (by decide)))
          have hey505 : Fvy28 27 = F 27 := ((hFvy28 27 (by decide)).trans (fn rfl (by decide)))
          have hey506 : Fvy28 28 = F 28 := ((hFvy28 28 (by decide)).trans (fn rfl (by decide)))
          have hey507 : Fvy28 29 = F 29 := ((hFvy28 29 (by decide)).trans (fn rfl (by decide)))
          have hKy508 : okF Fvy28 := okF.mv hM.2.1 hey494 hey495 hey496 hey497 hey498 hey499 hey500 hey501 hey502 hey503 hey504 hey505 hey506 hey507
          have hMy509 : okMr cs ad gvy28 i (x + 1) Fvy28 r st op ai fa mu tb tp := okMr.upd hM hcvy28 hKy508 (fun f a => hFy493 f (by omega)) hgy474 (hA.mono (by omega)) (fun j a b => by
              exact Or.inl (by rw [hfvy28 _ (by omega)]; rw [egy25, va_up_ne _ _ (by omega)]))
          have hkpy510 : Fvy28 13 = F 13 := ((hFvy28 13 (by decide)).trans (fn rfl (by decide)))
          have hkpy511 : Fvy28 14 = F 14 := ((hFvy28 14 (by decide)).trans (fn rfl (by decide)))
          have hkpy512 : Fvy28 15 = F 15 := ((hFvy28 15 (by decide)).trans (fn rfl (by decide)))
          have hkpy513 : Fvy28 16 = F 16 := ((hFvy28 16 (by decide)).trans (fn rfl (by decide)))
          have hkpy514 : Fvy28 17 = F 17 := ((hFvy28 17 (by decide)).trans (fn rfl (by decide)))
          have hkpy515 : Fvy28 18 = F 18 := ((hFvy28 18 (by decide)).trans (fn rfl (by decide)))
          have hkpy516 : Fvy28 19 = F 19 := ((hFvy28 19 (by decide)).trans (fn rfl (by decide)))
          have hkpy517 : Fvy28 20 = F 20 := ((hFvy28 20 (by decide)).trans (fn rfl (by decide)))
          have hkpy518 : Fvy28 21 = F 21 := ((hFvy28 21 (by decide)).trans (fn rfl (by decide)))
          have hkpy519 : Fvy28 23 = F 23 := ((hFvy28 23 (by decide)).trans (fn rfl (by decide)))
          have hkpy520 : Fvy28 24 = F 24 := ((hFvy28 24 (by decide)).trans (fn rfl (by decide)))
          have hkpy521 : Fvy28 25 = F 25 := ((hFvy28 25 (by decide)).trans (fn rfl (by decide)))
          have hkpy522 : Fvy28 26 = F 26 := ((hFvy28 26 (by decide)).trans (fn rfl (by decide)))
          have hkpy523 : Fvy28 27 = F 27 := ((hFvy28 27 (by decide)).trans (fn rfl (by decide)))
          have hkpy524 : Fvy28 29 = F 29 := ((hFvy28 29 (by decide)).trans (fn rfl (by decide)))
          exact z_iret C hr hlk dX10_count_160 (by decide) (by decide) ⟨vy492, rfl, rfl, rfl, by omega, ⟨_, _, hMy509, ⟨hkpy510, hkpy511, hkpy512, hkpy513, hkpy514, hkpy515, hkpy516, hkpy517, hkpy518, hkpy519, hkpy520⟩, ⟨(hkpy521.trans hp25), (hkpy522.trans hp26), (hkpy523.trans hp27), (hkpy524.trans hp29)⟩, (fun j _ => rfl)⟩, fun j j1 => by rw [hfvy28 _ (by omega)]; rw [egy25, va_up_ne _ _ (by omega)]⟩
        · refine z_tin (off := 138) (tgt := 161) C dX10_count_23 (by omega) (by omega) (by omega) rfl (by decide) ?_
          refine z_aload_n C 0 dX10_count_161 rfl ?_
          refine z_get (v := .ref (ad (i + 1))) C (lt_A0 hN rfl) hay1 hcvy28 rfl inA_X10 0 (by decide) q_1459 rfl rfl dX10_count_162 ?_
          refine z_iconst (z := 5) C dX10_count_165 rfl ?_
          have hgy525 := up_n egy25 ha1 (ne_o (i := i) (c := 1) (d := 0) rfl)
          have hgy526 := (hfvy28 (i + 1) (ne_o (i := i) (c := 1) (d := 0) rfl)).trans hgy525
          refine z_iald C (lt_A (c := 1) hN rfl) hay2 hgy526 (5) (by omega) (by omega) (by decide) dX10_count_166 ?_
          have hFy527 : ∀ f, f ≠ 12 → Fvy28 f = F f := fun f n12 => ((hFvy28 f n12).trans ((uZ_n _ _ n12).trans rfl))
          have hey528 : Fvy28 13 = F 13 := ((hFvy28 13 (by decide)).trans (fn rfl (by decide)))
          have hey529 : Fvy28 14 = F 14 := ((hFvy28 14 (by decide)).trans (fn rfl (by decide)))
          have hey530 : Fvy28 15 = F 15 := ((hFvy28 15 (by decide)).trans (fn rfl (by decide)))
          have hey531 : Fvy28 16 = F 16 := ((hFvy28 16 (by decide)).trans (fn rfl (by decide)))
          have hey532 : Fvy28 17 = F 17 := ((hFvy28 17 (by decide)).trans (fn rfl (by decide)))
          have hey533 : Fvy28 18 = F 18 := ((hFvy28 18 (by decide)).trans (fn rfl (by decide)))
          have hey534 : Fvy28 19 = F 19 := ((hFvy28 19 (by decide)).trans (fn rfl (by decide)))
          have hey535 : Fvy28 20 = F 20 := ((hFvy28 20 (by decide)).trans (fn rfl (by decide)))
          have hey536 : Fvy28 21 = F 21 := ((hFvy28 21 (by decide)).trans (fn rfl (by decide)))
          have hey537 : Fvy28 23 = F 23 := ((hFvy28 23 (by decide)).trans (fn rfl (by decide)))
          have hey538 : Fvy28 25 = F 25 := ((hFvy28 25 (by decide)).trans (fn rfl (by decide)))
          have hey539 : Fvy28 27 = F 27 := ((hFvy28 27 (by decide)).trans (fn rfl (by decide)))
          have hey540 : Fvy28 28 = F 28 := ((hFvy28 28 (by decide)).trans (fn rfl (by decide)))
          have hey541 : Fvy28 29 = F 29 := ((hFvy28 29 (by decide)).trans (fn rfl (by decide)))
          have hKy542 : okF Fvy28 := okF.mv hM.2.1 hey528 hey529 hey530 hey531 hey532 hey533 hey534 hey535 hey536 hey537 hey538 hey539 hey540 hey541
          have hMy543 : okMr cs ad gvy28 i (x + 1) Fvy28 r st op ai fa mu tb tp := okMr.upd hM hcvy28 hKy542 (fun f a => hFy527 f (by omega)) hgy526 (hA.mono (by omega)) (fun j a b => by
              exact Or.inl (by rw [hfvy28 _ (by omega)]; rw [egy25, va_up_ne _ _ (by omega)]))
          have hkpy544 : Fvy28 13 = F 13 := ((hFvy28 13 (by decide)).trans (fn rfl (by decide)))
          have hkpy545 : Fvy28 14 = F 14 := ((hFvy28 14 (by decide)).trans (fn rfl (by decide)))
          have hkpy546 : Fvy28 15 = F 15 := ((hFvy28 15 (by decide)).trans (fn rfl (by decide)))
          have hkpy547 : Fvy28 16 = F 16 := ((hFvy28 16 (by decide)).trans (fn rfl (by decide)))
          have hkpy548 : Fvy28 17 = F 17 := ((hFvy28 17 (by decide)).trans (fn rfl (by decide)))
          have hkpy549 : Fvy28 18 = F 18 := ((hFvy28 18 (by decide)).trans (fn rfl (by decide)))
          have hkpy550 : Fvy28 19 = F 19 := ((hFvy28 19 (by decide)).trans (fn rfl (by decide)))
          have hkpy551 : Fvy28 20 = F 20 := ((hFvy28 20 (by decide)).trans (fn rfl (by decide)))
          have hkpy552 : Fvy28 21 = F 21 := ((hFvy28 21 (by decide)).trans (fn rfl (by decide)))
          have hkpy553 : Fvy28 23 = F 23 := ((hFvy28 23 (by decide)).trans (fn rfl (by decide)))
          have hkpy554 : Fvy28 24 = F 24 := ((hFvy28 24 (by decide)).trans (fn rfl (by decide)))
          have hkpy555 : Fvy28 25 = F 25 := ((hFvy28 25 (by decide)).trans (fn rfl (by decide)))
          have hkpy556 : Fvy28 26 = F 26 := ((hFvy28 26 (by decide)).trans (fn rfl (by decide)))
          have hkpy557 : Fvy28 27 = F 27 := ((hFvy28 27 (by decide)).trans (fn rfl (by decide)))
          have hkpy558 : Fvy28 29 = F 29 := ((hFvy28 29 (by decide)).trans (fn rfl (by decide)))
          exact z_iret C hr hlk dX10_count_167 (by decide) (by decide) ⟨r (5), rfl, rfl, rfl, by omega, ⟨_, _, hMy543, ⟨hkpy544, hkpy545, hkpy546, hkpy547, hkpy548, hkpy549, hkpy550, hkpy551, hkpy552, hkpy553, hkpy554⟩, ⟨(hkpy555.trans hp25), (hkpy556.trans hp26), (hkpy557.trans hp27), (hkpy558.trans hp29)⟩, (fun j _ => rfl)⟩, fun j j1 => by rw [hfvy28 _ (by omega)]; rw [egy25, va_up_ne _ _ (by omega)]⟩
        · refine z_tin (off := 145) (tgt := 168) C dX10_count_23 (by omega) (by omega) (by omega) rfl (by decide) ?_
          refine z_aload_n C 0 dX10_count_168 rfl ?_
          refine z_get (v := .int (zI (F 15))) C (lt_A0 hN rfl) hay1 hcvy28 rfl inA_X10 15 (by decide) q_1474 rfl (fv (F := Fvy28) (f := 15) ((hFvy28 15 (by decide)).trans (fn rfl (by decide)))) dX10_count_169 ?_
          have hgy559 := up_n egy25 ha1 (ne_o (i := i) (c := 1) (d := 0) rfl)
          have hgy560 := (hfvy28 (i + 1) (ne_o (i := i) (c := 1) (d := 0) rfl)).trans hgy559
          have hFy561 : ∀ f, f ≠ 12 → Fvy28 f = F f := fun f n12 => ((hFvy28 f n12).trans ((uZ_n _ _ n12).trans rfl))
          have hey562 : Fvy28 13 = F 13 := ((hFvy28 13 (by decide)).trans (fn rfl (by decide)))
          have hey563 : Fvy28 14 = F 14 := ((hFvy28 14 (by decide)).trans (fn rfl (by decide)))
          have hey564 : Fvy28 15 = F 15 := ((hFvy28 15 (by decide)).trans (fn rfl (by decide)))
          have hey565 : Fvy28 16 = F 16 := ((hFvy28 16 (by decide)).trans (fn rfl (by decide)))
          have hey566 : Fvy28 17 = F 17 := ((hFvy28 17 (by decide)).trans (fn rfl (by decide)))
          have hey567 : Fvy28 18 = F 18 := ((hFvy28 18 (by decide)).trans (fn rfl (by decide)))
          have hey568 : Fvy28 19 = F 19 := ((hFvy28 19 (by decide)).trans (fn rfl (by decide)))
          have hey569 : Fvy28 20 = F 20 := ((hFvy28 20 (by decide)).trans (fn rfl (by decide)))
          have hey570 : Fvy28 21 = F 21 := ((hFvy28 21 (by decide)).trans (fn rfl (by decide)))
          have hey571 : Fvy28 23 = F 23 := ((hFvy28 23 (by decide)).trans (fn rfl (by decide)))
          have hey572 : Fvy28 25 = F 25 := ((hFvy28 25 (by decide)).trans (fn rfl (by decide)))
          have hey573 : Fvy28 27 = F 27 := ((hFvy28 27 (by decide)).trans (fn rfl (by decide)))
          have hey574 : Fvy28 28 = F 28 := ((hFvy28 28 (by decide)).trans (fn rfl (by decide)))
          have hey575 : Fvy28 29 = F 29 := ((hFvy28 29 (by decide)).trans (fn rfl (by decide)))
          have hKy576 : okF Fvy28 := okF.mv hM.2.1 hey562 hey563 hey564 hey565 hey566 hey567 hey568 hey569 hey570 hey571 hey572 hey573 hey574 hey575
          have hMy577 : okMr cs ad gvy28 i (x + 1) Fvy28 r st op ai fa mu tb tp := okMr.upd hM hcvy28 hKy576 (fun f a => hFy561 f (by omega)) hgy560 (hA.mono (by omega)) (fun j a b => by
              exact Or.inl (by rw [hfvy28 _ (by omega)]; rw [egy25, va_up_ne _ _ (by omega)]))
          have hkpy578 : Fvy28 13 = F 13 := ((hFvy28 13 (by decide)).trans (fn rfl (by decide)))
          have hkpy579 : Fvy28 14 = F 14 := ((hFvy28 14 (by decide)).trans (fn rfl (by decide)))
          have hkpy580 : Fvy28 15 = F 15 := ((hFvy28 15 (by decide)).trans (fn rfl (by decide)))
          have hkpy581 : Fvy28 16 = F 16 := ((hFvy28 16 (by decide)).trans (fn rfl (by decide)))
          have hkpy582 : Fvy28 17 = F 17 := ((hFvy28 17 (by decide)).trans (fn rfl (by decide)))
          have hkpy583 : Fvy28 18 = F 18 := ((hFvy28 18 (by decide)).trans (fn rfl (by decide)))
          have hkpy584 : Fvy28 19 = F 19 := ((hFvy28 19 (by decide)).trans (fn rfl (by decide)))
          have hkpy585 : Fvy28 20 = F 20 := ((hFvy28 20 (by decide)).trans (fn rfl (by decide)))
          have hkpy586 : Fvy28 21 = F 21 := ((hFvy28 21 (by decide)).trans (fn rfl (by decide)))
          have hkpy587 : Fvy28 23 = F 23 := ((hFvy28 23 (by decide)).trans (fn rfl (by decide)))
          have hkpy588 : Fvy28 24 = F 24 := ((hFvy28 24 (by decide)).trans (fn rfl (by decide)))
          have hkpy589 : Fvy28 25 = F 25 := ((hFvy28 25 (by decide)).trans (fn rfl (by decide)))
          have hkpy590 : Fvy28 26 = F 26 := ((hFvy28 26 (by decide)).trans (fn rfl (by decide)))
          have hkpy591 : Fvy28 27 = F 27 := ((hFvy28 27 (by decide)).trans (fn rfl (by decide)))
          have hkpy592 : Fvy28 29 = F 29 := ((hFvy28 29 (by decide)).trans (fn rfl (by decide)))
          exact z_iret C hr hlk dX10_count_172 (by decide) (by decide) ⟨F 15, rfl, rfl, rfl, by omega, ⟨_, _, hMy577, ⟨hkpy578, hkpy579, hkpy580, hkpy581, hkpy582, hkpy583, hkpy584, hkpy585, hkpy586, hkpy587, hkpy588⟩, ⟨(hkpy589.trans hp25), (hkpy590.trans hp26), (hkpy591.trans hp27), (hkpy592.trans hp29)⟩, (fun j _ => rfl)⟩, fun j j1 => by rw [hfvy28 _ (by omega)]; rw [egy25, va_up_ne _ _ (by omega)]⟩
        · refine z_tin (off := 150) (tgt := 173) C dX10_count_23 (by omega) (by omega) (by omega) rfl (by decide) ?_
          refine z_aload_n C 0 dX10_count_173 rfl ?_
          refine z_get (v := .int (zI (F 17))) C (lt_A0 hN rfl) hay1 hcvy28 rfl inA_X10 17 (by decide) q_1476 rfl (fv (F := Fvy28) (f := 17) ((hFvy28 17 (by decide)).trans (fn rfl (by decide)))) dX10_count_174 ?_
          have hgy593 := up_n egy25 ha1 (ne_o (i := i) (c := 1) (d := 0) rfl)
          have hgy594 := (hfvy28 (i + 1) (ne_o (i := i) (c := 1) (d := 0) rfl)).trans hgy593
          have hFy595 : ∀ f, f ≠ 12 → Fvy28 f = F f := fun f n12 => ((hFvy28 f n12).trans ((uZ_n _ _ n12).trans rfl))
          have hey596 : Fvy28 13 = F 13 := ((hFvy28 13 (by decide)).trans (fn rfl (by decide)))
          have hey597 : Fvy28 14 = F 14 := ((hFvy28 14 (by decide)).trans (fn rfl (by decide)))
          have hey598 : Fvy28 15 = F 15 := ((hFvy28 15 (by decide)).trans (fn rfl (by decide)))
          have hey599 : Fvy28 16 = F 16 := ((hFvy28 16 (by decide)).trans (fn rfl (by decide)))
          have hey600 : Fvy28 17 = F 17 := ((hFvy28 17 (by decide)).trans (fn rfl (by decide)))
          have hey601 : Fvy28 18 = F 18 := ((hFvy28 18 (by decide)).trans (fn rfl (by decide)))
          have hey602 : Fvy28 19 = F 19 := ((hFvy28 19 (by decide)).trans (fn rfl (by decide)))
          have hey603 : Fvy28 20 = F 20 := ((hFvy28 20 (by decide)).trans (fn rfl (by decide)))
          have hey604 : Fvy28 21 = F 21 := ((hFvy28 21 (by decide)).trans (fn rfl (by decide)))
          have hey605 : Fvy28 23 = F 23 := ((hFvy28 23 (by decide)).trans (fn rfl (by decide)))
          have hey606 : Fvy28 25 = F 25 := ((hFvy28 25 (by decide)).trans (fn rfl (by decide)))
          have hey607 : Fvy28 27 = F 27 := ((hFvy28 27 (by decide)).trans (fn rfl (by decide)))
          have hey608 : Fvy28 28 = F 28 := ((hFvy28 28 (by decide)).trans (fn rfl (by decide)))
          have hey609 : Fvy28 29 = F 29 := ((hFvy28 29 (by decide)).trans (fn rfl (by decide)))
          have hKy610 : okF Fvy28 := okF.mv hM.2.1 hey596 hey597 hey598 hey599 hey600 hey601 hey602 hey603 hey604 hey605 hey606 hey607 hey608 hey609
          have hMy611 : okMr cs ad gvy28 i (x + 1) Fvy28 r st op ai fa mu tb tp := okMr.upd hM hcvy28 hKy610 (fun f a => hFy595 f (by omega)) hgy594 (hA.mono (by omega)) (fun j a b => by
              exact Or.inl (by rw [hfvy28 _ (by omega)]; rw [egy25, va_up_ne _ _ (by omega)]))
          have hkpy612 : Fvy28 13 = F 13 := ((hFvy28 13 (by decide)).trans (fn rfl (by decide)))
          have hkpy613 : Fvy28 14 = F 14 := ((hFvy28 14 (by decide)).trans (fn rfl (by decide)))
          have hkpy614 : Fvy28 15 = F 15 := ((hFvy28 15 (by decide)).trans (fn rfl (by decide)))
          have hkpy615 : Fvy28 16 = F 16 := ((hFvy28 16 (by decide)).trans (fn rfl (by decide)))
          have hkpy616 : Fvy28 17 = F 17 := ((hFvy28 17 (by decide)).trans (fn rfl (by decide)))
          have hkpy617 : Fvy28 18 = F 18 := ((hFvy28 18 (by decide)).trans (fn rfl (by decide)))
          have hkpy618 : Fvy28 19 = F 19 := ((hFvy28 19 (by decide)).trans (fn rfl (by decide)))
          have hkpy619 : Fvy28 20 = F 20 := ((hFvy28 20 (by decide)).trans (fn rfl (by decide)))
          have hkpy620 : Fvy28 21 = F 21 := ((hFvy28 21 (by decide)).trans (fn rfl (by decide)))
          have hkpy621 : Fvy28 23 = F 23 := ((hFvy28 23 (by decide)).trans (fn rfl (by decide)))
          have hkpy622 : Fvy28 24 = F 24 := ((hFvy28 24 (by decide)).trans (fn rfl (by decide)))
          have hkpy623 : Fvy28 25 = F 25 := ((hFvy28 25 (by decide)).trans (fn rfl (by decide)))
          have hkpy624 : Fvy28 26 = F 26 := ((hFvy28 26 (by decide)).trans (fn rfl (by decide)))
          have hkpy625 : Fvy28 27 = F 27 := ((hFvy28 27 (by decide)).trans (fn rfl (by decide)))
          have hkpy626 : Fvy28 29 = F 29 := ((hFvy28 29 (by decide)).trans (fn rfl (by decide)))
          exact z_iret C hr hlk dX10_count_177 (by decide) (by decide) ⟨F 17, rfl, rfl, rfl, by omega, ⟨_, _, hMy611, ⟨hkpy612, hkpy613, hkpy614, hkpy615, hkpy616, hkpy617, hkpy618, hkpy619, hkpy620, hkpy621, hkpy622⟩, ⟨(hkpy623.trans hp25), (hkpy624.trans hp26), (hkpy625.trans hp27), (hkpy626.trans hp29)⟩, (fun j _ => rfl)⟩, fun j j1 => by rw [hfvy28 _ (by omega)]; rw [egy25, va_up_ne _ _ (by omega)]⟩
        · refine z_tin (off := 155) (tgt := 178) C dX10_count_23 (by omega) (by omega) (by omega) rfl (by decide) ?_
          refine z_aload_n C 0 dX10_count_178 rfl ?_
          refine z_get (v := .int (zI (F 23))) C (lt_A0 hN rfl) hay1 hcvy28 rfl inA_X10 23 (by decide) q_1482 rfl (fv (F := Fvy28) (f := 23) ((hFvy28 23 (by decide)).trans (fn rfl (by decide)))) dX10_count_179 ?_
          have hgy627 := up_n egy25 ha1 (ne_o (i := i) (c := 1) (d := 0) rfl)
          have hgy628 := (hfvy28 (i + 1) (ne_o (i := i) (c := 1) (d := 0) rfl)).trans hgy627
          have hFy629 : ∀ f, f ≠ 12 → Fvy28 f = F f := fun f n12 => ((hFvy28 f n12).trans ((uZ_n _ _ n12).trans rfl))
          have hey630 : Fvy28 13 = F 13 := ((hFvy28 13 (by decide)).trans (fn rfl (by decide)))
          have hey631 : Fvy28 14 = F 14 := ((hFvy28 14 (by decide)).trans (fn rfl (by decide)))
          have hey632 : Fvy28 15 = F 15 := ((hFvy28 15 (by decide)).trans (fn rfl (by decide)))
          have hey633 : Fvy28 16 = F 16 := ((hFvy28 16 (by decide)).trans (fn rfl (by decide)))
          have hey634 : Fvy28 17 = F 17 := ((hFvy28 17 (by decide)).trans (fn rfl (by decide)))
          have hey635 : Fvy28 18 = F 18 := ((hFvy28 18 (by decide)).trans (fn rfl (by decide)))
          have hey636 : Fvy28 19 = F 19 := ((hFvy28 19 (by decide)).trans (fn rfl (by decide)))
          have hey637 : Fvy28 20 = F 20 := ((hFvy28 20 (by decide)).trans (fn rfl (by decide)))
          have hey638 : Fvy28 21 = F 21 := ((hFvy28 21 (by decide)).trans (fn rfl (by decide)))
          have hey639 : Fvy28 23 = F 23 := ((hFvy28 23 (by decide)).trans (fn rfl (by decide)))
          have hey640 : Fvy28 25 = F 25 := ((hFvy28 25 (by decide)).trans (fn rfl (by decide)))
          have hey641 : Fvy28 27 = F 27 := ((hFvy28 27 (by decide)).trans (fn rfl (by decide)))
          have hey642 : Fvy28 28 = F 28 := ((hFvy28 28 (by decide)).trans (fn rfl (by decide)))
          have hey643 : Fvy28 29 = F 29 := ((hFvy28 29 (by decide)).trans (fn rfl (by decide)))
          have hKy644 : okF Fvy28 := okF.mv hM.2.1 hey630 hey631 hey632 hey633 hey634 hey635 hey636 hey637 hey638 hey639 hey640 hey641 hey642 hey643
          have hMy645 : okMr cs ad gvy28 i (x + 1) Fvy28 r st op ai fa mu tb tp := okMr.upd hM hcvy28 hKy644 (fun f a => hFy629 f (by omega)) hgy628 (hA.mono (by omega)) (fun j a b => by
              exact Or.inl (by rw [hfvy28 _ (by omega)]; rw [egy25, va_up_ne _ _ (by omega)]))
          have hkpy646 : Fvy28 13 = F 13 := ((hFvy28 13 (by decide)).trans (fn rfl (by decide)))
          have hkpy647 : Fvy28 14 = F 14 := ((hFvy28 14 (by decide)).trans (fn rfl (by decide)))
          have hkpy648 : Fvy28 15 = F 15 := ((hFvy28 15 (by decide)).trans (fn rfl (by decide)))
          have hkpy649 : Fvy28 16 = F 16 := ((hFvy28 16 (by decide)).trans (fn rfl (by decide)))
          have hkpy650 : Fvy28 17 = F 17 := ((hFvy28 17 (by decide)).trans (fn rfl (by decide)))
          have hkpy651 : Fvy28 18 = F 18 := ((hFvy28 18 (by decide)).trans (fn rfl (by decide)))
          have hkpy652 : Fvy28 19 = F 19 := ((hFvy28 19 (by decide)).trans (fn rfl (by decide)))
          have hkpy653 : Fvy28 20 = F 20 := ((hFvy28 20 (by decide)).trans (fn rfl (by decide)))
          have hkpy654 : Fvy28 21 = F 21 := ((hFvy28 21 (by decide)).trans (fn rfl (by decide)))
          have hkpy655 : Fvy28 23 = F 23 := ((hFvy28 23 (by decide)).trans (fn rfl (by decide)))
          have hkpy656 : Fvy28 24 = F 24 := ((hFvy28 24 (by decide)).trans (fn rfl (by decide)))
          have hkpy657 : Fvy28 25 = F 25 := ((hFvy28 25 (by decide)).trans (fn rfl (by decide)))
          have hkpy658 : Fvy28 26 = F 26 := ((hFvy28 26 (by decide)).trans (fn rfl (by decide)))
          have hkpy659 : Fvy28 27 = F 27 := ((hFvy28 27 (by decide)).trans (fn rfl (by decide)))
          have hkpy660 : Fvy28 29 = F 29 := ((hFvy28 29 (by decide)).trans (fn rfl (by decide)))
          exact z_iret C hr hlk dX10_count_182 (by decide) (by decide) ⟨F 23, rfl, rfl, rfl, by omega, ⟨_, _, hMy645, ⟨hkpy646, hkpy647, hkpy648, hkpy649, hkpy650, hkpy651, hkpy652, hkpy653, hkpy654, hkpy655, hkpy656⟩, ⟨(hkpy657.trans hp25), (hkpy658.trans hp26), (hkpy659.trans hp27), (hkpy660.trans hp29)⟩, (fun j _ => rfl)⟩, fun j j1 => by rw [hfvy28 _ (by omega)]; rw [egy25, va_up_ne _ _ (by omega)]⟩
    · refine z_if_ne (tgt := 22) C dX10_count_17 (by decide) (by omega) (fun h => absurd h (by omega)) (fun _ => ?_)
      refine z_iconst (z := 0) C dX10_count_20 rfl ?_
      have hgy661 := up_n egy25 ha1 (ne_o (i := i) (c := 1) (d := 0) rfl)
      have hgy662 := (hfvy28 (i + 1) (ne_o (i := i) (c := 1) (d := 0) rfl)).trans hgy661
      have hFy663 : ∀ f, f ≠ 12 → Fvy28 f = F f := fun f n12 => ((hFvy28 f n12).trans ((uZ_n _ _ n12).trans rfl))
      have hey664 : Fvy28 13 = F 13 := ((hFvy28 13 (by decide)).trans (fn rfl (by decide)))
      have hey665 : Fvy28 14 = F 14 := ((hFvy28 14 (by decide)).trans (fn rfl (by decide)))
      have hey666 : Fvy28 15 = F 15 := ((hFvy28 15 (by decide)).trans (fn rfl (by decide)))
      have hey667 : Fvy28 16 = F 16 := ((hFvy28 16 (by decide)).trans (fn rfl (by decide)))
      have hey668 : Fvy28 17 = F 17 := ((hFvy28 17 (by decide)).trans (fn rfl (by decide)))
      have hey669 : Fvy28 18 = F 18 := ((hFvy28 18 (by decide)).trans (fn rfl (by decide)))
      have hey670 : Fvy28 19 = F 19 := ((hFvy28 19 (by decide)).trans (fn rfl (by decide)))
      have hey671 : Fvy28 20 = F 20 := ((hFvy28 20 (by decide)).trans (fn rfl (by decide)))
      have hey672 : Fvy28 21 = F 21 := ((hFvy28 21 (by decide)).trans (fn rfl (by decide)))
      have hey673 : Fvy28 23 = F 23 := ((hFvy28 23 (by decide)).trans (fn rfl (by decide)))
      have hey674 : Fvy28 25 = F 25 := ((hFvy28 25 (by decide)).trans (fn rfl (by decide)))
      have hey675 : Fvy28 27 = F 27 := ((hFvy28 27 (by decide)).trans (fn rfl (by decide)))
      have hey676 : Fvy28 28 = F 28 := ((hFvy28 28 (by decide)).trans (fn rfl (by decide)))
      have hey677 : Fvy28 29 = F 29 := ((hFvy28 29 (by decide)).trans (fn rfl (by decide)))
      have hKy678 : okF Fvy28 := okF.mv hM.2.1 hey664 hey665 hey666 hey667 hey668 hey669 hey670 hey671 hey672 hey673 hey674 hey675 hey676 hey677
      have hMy679 : okMr cs ad gvy28 i (x + 1) Fvy28 r st op ai fa mu tb tp := okMr.upd hM hcvy28 hKy678 (fun f a => hFy663 f (by omega)) hgy662 (hA.mono (by omega)) (fun j a b => by
          exact Or.inl (by rw [hfvy28 _ (by omega)]; rw [egy25, va_up_ne _ _ (by omega)]))
      have hkpy680 : Fvy28 13 = F 13 := ((hFvy28 13 (by decide)).trans (fn rfl (by decide)))
      have hkpy681 : Fvy28 14 = F 14 := ((hFvy28 14 (by decide)).trans (fn rfl (by decide)))
      have hkpy682 : Fvy28 15 = F 15 := ((hFvy28 15 (by decide)).trans (fn rfl (by decide)))
      have hkpy683 : Fvy28 16 = F 16 := ((hFvy28 16 (by decide)).trans (fn rfl (by decide)))
      have hkpy684 : Fvy28 17 = F 17 := ((hFvy28 17 (by decide)).trans (fn rfl (by decide)))
      have hkpy685 : Fvy28 18 = F 18 := ((hFvy28 18 (by decide)).trans (fn rfl (by decide)))
      have hkpy686 : Fvy28 19 = F 19 := ((hFvy28 19 (by decide)).trans (fn rfl (by decide)))
      have hkpy687 : Fvy28 20 = F 20 := ((hFvy28 20 (by decide)).trans (fn rfl (by decide)))
      have hkpy688 : Fvy28 21 = F 21 := ((hFvy28 21 (by decide)).trans (fn rfl (by decide)))
      have hkpy689 : Fvy28 23 = F 23 := ((hFvy28 23 (by decide)).trans (fn rfl (by decide)))
      have hkpy690 : Fvy28 24 = F 24 := ((hFvy28 24 (by decide)).trans (fn rfl (by decide)))
      have hkpy691 : Fvy28 25 = F 25 := ((hFvy28 25 (by decide)).trans (fn rfl (by decide)))
      have hkpy692 : Fvy28 26 = F 26 := ((hFvy28 26 (by decide)).trans (fn rfl (by decide)))
      have hkpy693 : Fvy28 27 = F 27 := ((hFvy28 27 (by decide)).trans (fn rfl (by decide)))
      have hkpy694 : Fvy28 29 = F 29 := ((hFvy28 29 (by decide)).trans (fn rfl (by decide)))
      exact z_iret C hr hlk dX10_count_21 (by decide) (by decide) ⟨0, rfl, rfl, rfl, by omega, ⟨_, _, hMy679, ⟨hkpy680, hkpy681, hkpy682, hkpy683, hkpy684, hkpy685, hkpy686, hkpy687, hkpy688, hkpy689, hkpy690⟩, ⟨(hkpy691.trans hp25), (hkpy692.trans hp26), (hkpy693.trans hp27), (hkpy694.trans hp29)⟩, (fun j _ => rfl)⟩, fun j j1 => by rw [hfvy28 _ (by omega)]; rw [egy25, va_up_ne _ _ (by omega)]⟩
  · refine z_iconst (z := 1) C dX10_count_13 rfl ?_
    have hey696 : (uZ F 12 (0)) 12 = 0 := (uZ_s _ _ _)
    refine z_cV (As := [.int (zI (0)), .int (zI (1))]) (rest := []) (ci := 12) C (c_X10_right l D A cs tt N ad _ i hN _ hgy26 (by omega) (0) (by omega) (1) (by omega)) (lt_A0 hN rfl) hay1 hgy26 rfl rfl mv_yX10_right q_1648 hd_yX10_right (by decide) (Nat.le_of_ble_eq_true rfl) (by decide) dX10_count_14 rfl (kI0 fun vy695 gvy695 hvy695 => ?_)
    obtain ⟨hrvy695, ⟨Fvy695, hcvy695, htvy695, hFvy695⟩, hfvy695⟩ := hvy695
    obtain rfl : vy695 = 0 := by omega
    refine z_if_ne (tgt := 22) C dX10_count_17 (by decide) (by omega) (fun h => absurd h (by omega)) (fun _ => ?_)
    refine z_iconst (z := 0) C dX10_count_20 rfl ?_
    have hgy697 := up_n egy25 ha1 (ne_o (i := i) (c := 1) (d := 0) rfl)
    have hgy698 := (hfvy695 (i + 1) (ne_o (i := i) (c := 1) (d := 0) rfl)).trans hgy697
    have hFy699 : ∀ f, f ≠ 12 → Fvy695 f = F f := fun f n12 => ((hFvy695 f n12).trans ((uZ_n _ _ n12).trans rfl))
    have hey700 : Fvy695 13 = F 13 := ((hFvy695 13 (by decide)).trans (fn rfl (by decide)))
    have hey701 : Fvy695 14 = F 14 := ((hFvy695 14 (by decide)).trans (fn rfl (by decide)))
    have hey702 : Fvy695 15 = F 15 := ((hFvy695 15 (by decide)).trans (fn rfl (by decide)))
    have hey703 : Fvy695 16 = F 16 := ((hFvy695 16 (by decide)).trans (fn rfl (by decide)))
    have hey704 : Fvy695 17 = F 17 := ((hFvy695 17 (by decide)).trans (fn rfl (by decide)))
    have hey705 : Fvy695 18 = F 18 := ((hFvy695 18 (by decide)).trans (fn rfl (by decide)))
    have hey706 : Fvy695 19 = F 19 := ((hFvy695 19 (by decide)).trans (fn rfl (by decide)))
    have hey707 : Fvy695 20 = F 20 := ((hFvy695 20 (by decide)).trans (fn rfl (by decide)))
    have hey708 : Fvy695 21 = F 21 := ((hFvy695 21 (by decide)).trans (fn rfl (by decide)))
    have hey709 : Fvy695 23 = F 23 := ((hFvy695 23 (by decide)).trans (fn rfl (by decide)))
    have hey710 : Fvy695 25 = F 25 := ((hFvy695 25 (by decide)).trans (fn rfl (by decide)))
    have hey711 : Fvy695 27 = F 27 := ((hFvy695 27 (by decide)).trans (fn rfl (by decide)))
    have hey712 : Fvy695 28 = F 28 := ((hFvy695 28 (by decide)).trans (fn rfl (by decide)))
    have hey713 : Fvy695 29 = F 29 := ((hFvy695 29 (by decide)).trans (fn rfl (by decide)))
    have hKy714 : okF Fvy695 := okF.mv hM.2.1 hey700 hey701 hey702 hey703 hey704 hey705 hey706 hey707 hey708 hey709 hey710 hey711 hey712 hey713
    have hMy715 : okMr cs ad gvy695 i (x + 1) Fvy695 r st op ai fa mu tb tp := okMr.upd hM hcvy695 hKy714 (fun f a => hFy699 f (by omega)) hgy698 (hA.mono (by omega)) (fun j a b => by
        exact Or.inl (by rw [hfvy695 _ (by omega)]; rw [egy25, va_up_ne _ _ (by omega)]))
    have hkpy716 : Fvy695 13 = F 13 := ((hFvy695 13 (by decide)).trans (fn rfl (by decide)))
    have hkpy717 : Fvy695 14 = F 14 := ((hFvy695 14 (by decide)).trans (fn rfl (by decide)))
    have hkpy718 : Fvy695 15 = F 15 := ((hFvy695 15 (by decide)).trans (fn rfl (by decide)))
    have hkpy719 : Fvy695 16 = F 16 := ((hFvy695 16 (by decide)).trans (fn rfl (by decide)))
    have hkpy720 : Fvy695 17 = F 17 := ((hFvy695 17 (by decide)).trans (fn rfl (by decide)))
    have hkpy721 : Fvy695 18 = F 18 := ((hFvy695 18 (by decide)).trans (fn rfl (by decide)))
    have hkpy722 : Fvy695 19 = F 19 := ((hFvy695 19 (by decide)).trans (fn rfl (by decide)))
    have hkpy723 : Fvy695 20 = F 20 := ((hFvy695 20 (by decide)).trans (fn rfl (by decide)))
    have hkpy724 : Fvy695 21 = F 21 := ((hFvy695 21 (by decide)).trans (fn rfl (by decide)))
    have hkpy725 : Fvy695 23 = F 23 := ((hFvy695 23 (by decide)).trans (fn rfl (by decide)))
    have hkpy726 : Fvy695 24 = F 24 := ((hFvy695 24 (by decide)).trans (fn rfl (by decide)))
    have hkpy727 : Fvy695 25 = F 25 := ((hFvy695 25 (by decide)).trans (fn rfl (by decide)))
    have hkpy728 : Fvy695 26 = F 26 := ((hFvy695 26 (by decide)).trans (fn rfl (by decide)))
    have hkpy729 : Fvy695 27 = F 27 := ((hFvy695 27 (by decide)).trans (fn rfl (by decide)))
    have hkpy730 : Fvy695 29 = F 29 := ((hFvy695 29 (by decide)).trans (fn rfl (by decide)))
    exact z_iret C hr hlk dX10_count_21 (by decide) (by decide) ⟨0, rfl, rfl, rfl, by omega, ⟨_, _, hMy715, ⟨hkpy716, hkpy717, hkpy718, hkpy719, hkpy720, hkpy721, hkpy722, hkpy723, hkpy724, hkpy725, hkpy726⟩, ⟨(hkpy727.trans hp25), (hkpy728.trans hp26), (hkpy729.trans hp27), (hkpy730.trans hp29)⟩, (fun j _ => rfl)⟩, fun j j1 => by rw [hfvy695 _ (by omega)]; rw [egy25, va_up_ne _ _ (by omega)]⟩

set_option maxRecDepth 100000 in
set_option maxHeartbeats 4000000 in
theorem c_X10_slope_a (l : Launch) (D : va_G) (A : Nat → Prop) (cs : Nat → ClassId) (tt : Nat) (N : Nat) (ad : Nat → Nat) (g : Nat → va_E) (i : Nat) (hN : i + 30 ≤ N) (x : Int) (hx : 0 ≤ x ∧ x ≤ 512) (F r : Nat → Int) {st op ai fa mu tb tp : Nat → Int} (hM : okMr cs ad g i x F r st op ai fa mu tb tp) (hPl : F 25 = 0 ∧ F 26 = -1 ∧ F 27 = -1 ∧ F 29 = 0) (n : Nat) (hn4 : n < 4) (z1 : Int) (hz1 : -2147483648 ≤ z1 ∧ z1 ≤ 2147483647) : zM l yX10_slope cX10_slope 3 (some .int) ({ frames := 11, cells := 0, slots := 0, locals := 660 } : Room) D A cs tt N ad g [.ref (ad i), .int (zI ((n : Int))), .int (zI (z1))] (rI0 N ad fun q g' => (-2147483648 ≤ q ∧ q ≤ 2147483647) ∧ (∃ F' r' : Nat → Int, okMr cs ad g' i (x + 1) F' r' st op ai fa mu tb tp ∧ (F' 13 = F 13 ∧ F' 14 = F 14 ∧ F' 15 = F 15 ∧ F' 16 = F 16 ∧ F' 17 = F 17 ∧ F' 18 = F 18 ∧ F' 19 = F 19 ∧ F' 20 = F 20 ∧ F' 21 = F 21 ∧ F' 23 = F 23 ∧ F' 24 = F 24) ∧ (F' 25 = 0 ∧ F' 26 = -1 ∧ F' 27 = -1 ∧ F' 29 = 0) ∧ (∀ j, j < 350 ∨ 700 ≤ j → r' j = r j)) ∧ ∀ j, j < i ∨ i + 30 ≤ j ∨ (i + 8 ≤ j ∧ j ≤ i + 12) → g' j = g j) := by
  obtain ⟨hg, ⟨⟨e13, e14, e25, e27, e29⟩, k15, k16, k17, k18, k19, k20, k23, k21⟩, hRD, hTx, hA, ns, nh, nd, rf, pi, te, ki, li, ok1, ok2, fo, dd, dps, ⟨ha1, ha2, ha3, ha4, ha5, ha6, ha7, ha8, ha9, ha10, ha11, ha12, ha13, ha14, ha15, ha24, ha25, ha26, ha27, ha28, ha29⟩, hEv, hPt, hns, htp⟩ := id hM
  obtain ⟨-, hop, hai, hfa, hT, hT1⟩ := id hEv
  have hay1 : zAt ad (i) (ad i) := rfl
  have hay2 : zAt ad (i + 1) (ad (i + 1)) := rfl
  have hay3 : zAt ad (i + 2) (ad (i + 2)) := rfl
  have hay4 : zAt ad (i + 3) (ad (i + 3)) := rfl
  have hay5 : zAt ad (i + 4) (ad (i + 4)) := rfl
  have hay6 : zAt ad (i + 5) (ad (i + 5)) := rfl
  have hay7 : zAt ad (i + 6) (ad (i + 6)) := rfl
  have hay8 : zAt ad (i + 7) (ad (i + 7)) := rfl
  have hay9 : zAt ad (i + 8) (ad (i + 8)) := rfl
  have hay10 : zAt ad (i + 9) (ad (i + 9)) := rfl
  have hay11 : zAt ad (i + 10) (ad (i + 10)) := rfl
  have hay12 : zAt ad (i + 11) (ad (i + 11)) := rfl
  have hay13 : zAt ad (i + 12) (ad (i + 12)) := rfl
  have hay14 : zAt ad (i + 13) (ad (i + 13)) := rfl
  have hay15 : zAt ad (i + 14) (ad (i + 14)) := rfl
  have hay16 : zAt ad (i + 15) (ad (i + 15)) := rfl
  have hay17 : zAt ad (i + 24) (ad (i + 24)) := rfl
  have hay18 : zAt ad (i + 25) (ad (i + 25)) := rfl
  have hay19 : zAt ad (i + 26) (ad (i + 26)) := rfl
  have hay20 : zAt ad (i + 27) (ad (i + 27)) := rfl
  have hay21 : zAt ad (i + 28) (ad (i + 28)) := rfl
  have hay22 : zAt ad (i + 29) (ad (i + 29)) := rfl
  obtain ⟨⟨hsyy23, htyy23, hnyy23, hpyy23⟩, hlyy23⟩ := okA.at0 hA
  simp only [Nat.zero_add] at hsyy23 hnyy23 hpyy23
  have hmn : ∀ s, s < 4 → 0 ≤ r (6 + 86 * s) ∧ r (6 + 86 * s) ≤ 12 := fun s hs => (hsyy23 s hs).1
  have h5 : 0 ≤ r 5 ∧ r 5 ≤ 6 := hpyy23
  obtain ⟨hp25, hp26, hp27, hp29⟩ := id hPl
  refine z_of (by decide) (Nat.le_of_ble_eq_true rfl) ?_
  intro pZ eZ sZ mZ below meth cZ C hr hlk hnm
  refine z_lv (lv' := [(0, .ref (ad i)), (1, .int (zI ((n : Int)))), (2, .int (zI (z1)))]) [0, 1, 2] rfl ?_
  refine z_aload_n C 0 dX10_slope_0 rfl ?_
  refine z_iconst (z := 0) C dX10_slope_1 rfl ?_
  refine z_put (fs' := mF ad (i) (uZ F 12 (0))) C (lt_A0 hN rfl) hay1 hg tyX10 tyX10_ok nmX10 rfl inA_X10 12 (by decide) q_1471 rfl rfl rfl rfl (Nat.le_of_ble_eq_true rfl) rfl dX10_slope_2 (fun gy24 egy25 => ?_)
  have hgy26 := up_s egy25
  refine z_aload_n C 0 dX10_slope_5 rfl ?_
  refine z_iload_n C 1 dX10_slope_6 rfl ?_
  have h13vy27 : (uZ F 12 (0)) 13 = F 13 := (fn rfl (by decide))
  have hey28 : (uZ F 12 (0)) 12 = 0 := (uZ_s _ _ _)
  refine z_cV (As := [.int (zI ((n : Int)))]) (rest := []) (ci := 12) C (c_X10_isSlope l D A cs tt N ad _ i hN _ hgy26 (by omega) (by omega) ((n : Int)) (by omega)) (lt_A0 hN rfl) hay1 hgy26 rfl rfl mv_yX10_isSlope q_1803 hd_yX10_isSlope (by decide) (Nat.le_of_ble_eq_true rfl) (by decide) dX10_slope_7 rfl (kI0 fun vy27 gvy27 hvy27 => ?_)
  rw [h13vy27] at hvy27
  obtain ⟨hrvy27, ⟨Fvy27, hcvy27, htvy27, hFvy27⟩, hfvy27⟩ := hvy27
  rcases (show vy27 = 1 ∨ vy27 = 0 by omega) with rfl | rfl
  · have hxvy27 := hrvy27.2 rfl
    refine z_if_eq (tgt := 28) C dX10_slope_10 (by decide) (by omega) (fun h => absurd h (by omega)) (fun _ => ?_)
    refine z_aload_n C 0 dX10_slope_13 rfl ?_
    refine z_iload_n C 2 dX10_slope_14 rfl ?_
    refine z_iconst (z := 0) C dX10_slope_15 rfl ?_
    refine z_bipush (z := 9) C dX10_slope_16 (by decide) ?_
    refine z_cS (As := [.int (zI (z1)), .int (zI (0)), .int (zI (9))]) (rest := [.ref (ad i)]) C (c_X10_within l D A cs tt N ad _ (z1) (by omega) (0) (by omega) (9) (by omega)) ms_yX10_within q_1686 hd_yX10_within (by decide) (Nat.le_of_ble_eq_true rfl) (by decide) dX10_slope_18 rfl (kI0 fun vy29 gvy29 hvy29 => ?_)
    obtain ⟨hvy29, rfl⟩ := hvy29
    rcases hvy29 with ⟨rfl, hxvy29⟩ | ⟨rfl, hxvy29⟩
    · refine z_iconst (z := 1) C dX10_slope_21 rfl ?_
      have hey31 : Fvy27 12 = Fvy27 12 := rfl
      refine z_cV (As := [.int (zI (1)), .int (zI (1))]) (rest := []) (ci := 12) C (c_X10_right l D A cs tt N ad _ i hN _ hcvy27 (by omega) (1) (by omega) (1) (by omega)) (lt_A0 hN rfl) hay1 hcvy27 rfl rfl mv_yX10_right q_1648 hd_yX10_right (by decide) (Nat.le_of_ble_eq_true rfl) (by decide) dX10_slope_22 rfl (kI0 fun vy30 gvy30 hvy30 => ?_)
      obtain ⟨hrvy30, ⟨Fvy30, hcvy30, htvy30, hFvy30⟩, hfvy30⟩ := hvy30
      rcases (show vy30 = 1 ∨ vy30 = 0 by omega) with rfl | rfl
      · refine z_if_ne (tgt := 30) C dX10_slope_25 (by decide) (by omega) (fun _ => ?_) (fun h => absurd h (by omega))
        refine z_iload_n C 2 dX10_slope_30 rfl ?_
        by_cases hsy32 : z1 ≠ 0 ∧ z1 ≠ 1 ∧ z1 ≠ 2 ∧ z1 ≠ 3 ∧ z1 ≠ 4 ∧ z1 ≠ 5 ∧ z1 ≠ 6 ∧ z1 ≠ 7 ∧ z1 ≠ 8
        · refine z_tout (tgt := 154) C dX10_slope_31 (by omega) (by omega) (by decide) ?_
          refine z_aload_n C 0 dX10_slope_154 rfl ?_
          refine z_iconst (z := 0) C dX10_slope_155 rfl ?_
          refine z_iload_n C 1 dX10_slope_156 rfl ?_
          obtain ⟨py33, hpy33⟩ : ∃ p9 : Nat, 0 + 6 + 86 * n = p9 := ⟨_, rfl⟩
          have hgy34 := up_n egy25 ha1 (ne_o (i := i) (c := 1) (d := 0) rfl)
          have hgy35 := (hfvy27 (i + 1) (ne_o (i := i) (c := 1) (d := 0) rfl)).trans hgy34
          have hgy36 := (hfvy30 (i + 1) (ne_o (i := i) (c := 1) (d := 0) rfl)).trans hgy35
          have hgy38 := up_n egy25 ha2 (ne_o (i := i) (c := 2) (d := 0) rfl)
          have hgy39 := (hfvy27 (i + 2) (ne_o (i := i) (c := 2) (d := 0) rfl)).trans hgy38
          have hgy40 := (hfvy30 (i + 2) (ne_o (i := i) (c := 2) (d := 0) rfl)).trans hgy39
          have hgy41 := up_n egy25 ha7 (ne_o (i := i) (c := 7) (d := 0) rfl)
          have hgy42 := (hfvy27 (i + 7) (ne_o (i := i) (c := 7) (d := 0) rfl)).trans hgy41
          have hgy43 := (hfvy30 (i + 7) (ne_o (i := i) (c := 7) (d := 0) rfl)).trans hgy42
          have hqy44 : qS r py33 := (((okA.at0 hA).1.1 n (by omega)).of (p2 := py33) (by omega)).q (by have hb9 := mBb (t := r 0 + x) (by omega); omega)
          have hmky45 := hqy44.1
          refine z_cV (As := [.int (zI (0)), .int (zI ((n : Int)))]) (rest := []) (ci := 12) C (c_X10_isUnstable l D A cs tt N ad _ i hN _ hcvy30 _ hgy36 _ hgy40 _ hgy43 0 n py33 hpy33 (by omega) (by omega) hqy44) (lt_A0 hN rfl) hay1 hcvy30 rfl rfl mv_yX10_isUnstable q_1811 hd_yX10_isUnstable (by decide) (Nat.le_of_ble_eq_true rfl) (by decide) dX10_slope_157 rfl (kI0 fun vy37 gvy37 hvy37 => ?_)
          obtain ⟨hvy37, rfl⟩ := hvy37
          refine z_if_eq (tgt := 167) C dX10_slope_160 (by decide) (by omega) (fun hby46 => ?_) (fun hby46 => ?_)
          · refine z_iconst (z := 0) C dX10_slope_167 rfl ?_
            have hFy47 : ∀ f, f ≠ 12 → Fvy30 f = F f := fun f n12 => ((hFvy30 f n12).trans ((hFvy27 f n12).trans ((uZ_n _ _ n12).trans rfl)))
            have hey48 : Fvy30 13 = F 13 := ((hFvy30 13 (by decide)).trans ((hFvy27 13 (by decide)).trans (fn rfl (by decide))))
            have hey49 : Fvy30 14 = F 14 := ((hFvy30 14 (by decide)).trans ((hFvy27 14 (by decide)).trans (fn rfl (by decide))))
            have hey50 : Fvy30 15 = F 15 := ((hFvy30 15 (by decide)).trans ((hFvy27 15 (by decide)).trans (fn rfl (by decide))))
            have hey51 : Fvy30 16 = F 16 := ((hFvy30 16 (by decide)).trans ((hFvy27 16 (by decide)).trans (fn rfl (by decide))))
            have hey52 : Fvy30 17 = F 17 := ((hFvy30 17 (by decide)).trans ((hFvy27 17 (by decide)).trans (fn rfl (by decide))))
            have hey53 : Fvy30 18 = F 18 := ((hFvy30 18 (by decide)).trans ((hFvy27 18 (by decide)).trans (fn rfl (by decide))))
            have hey54 : Fvy30 19 = F 19 := ((hFvy30 19 (by decide)).trans ((hFvy27 19 (by decide)).trans (fn rfl (by decide))))
            have hey55 : Fvy30 20 = F 20 := ((hFvy30 20 (by decide)).trans ((hFvy27 20 (by decide)).trans (fn rfl (by decide))))
            have hey56 : Fvy30 21 = F 21 := ((hFvy30 21 (by decide)).trans ((hFvy27 21 (by decide)).trans (fn rfl (by decide))))
            have hey57 : Fvy30 23 = F 23 := ((hFvy30 23 (by decide)).trans ((hFvy27 23 (by decide)).trans (fn rfl (by decide))))
            have hey58 : Fvy30 25 = F 25 := ((hFvy30 25 (by decide)).trans ((hFvy27 25 (by decide)).trans (fn rfl (by decide))))
            have hey59 : Fvy30 27 = F 27 := ((hFvy30 27 (by decide)).trans ((hFvy27 27 (by decide)).trans (fn rfl (by decide))))
            have hey60 : Fvy30 28 = F 28 := ((hFvy30 28 (by decide)).trans ((hFvy27 28 (by decide)).trans (fn rfl (by decide))))
            have hey61 : Fvy30 29 = F 29 := ((hFvy30 29 (by decide)).trans ((hFvy27 29 (by decide)).trans (fn rfl (by decide))))
            have hKy62 : okF Fvy30 := okF.mv hM.2.1 hey48 hey49 hey50 hey51 hey52 hey53 hey54 hey55 hey56 hey57 hey58 hey59 hey60 hey61
            have hMy63 : okMr cs ad gvy30 i (x + 1) Fvy30 r st op ai fa mu tb tp := okMr.upd hM hcvy30 hKy62 (fun f a => hFy47 f (by omega)) hgy36 (hA.mono (by omega)) (fun j a b => by
                exact Or.inl (by rw [hfvy30 _ (by omega)]; rw [hfvy27 _ (by omega)]; rw [egy25, va_up_ne _ _ (by omega)]))
            have hkpy64 : Fvy30 13 = F 13 := ((hFvy30 13 (by decide)).trans ((hFvy27 13 (by decide)).trans (fn rfl (by decide))))
            have hkpy65 : Fvy30 14 = F 14 := ((hFvy30 14 (by decide)).trans ((hFvy27 14 (by decide)).trans (fn rfl (by decide))))
            have hkpy66 : Fvy30 15 = F 15 := ((hFvy30 15 (by decide)).trans ((hFvy27 15 (by decide)).trans (fn rfl (by decide))))
            have hkpy67 : Fvy30 16 = F 16 := ((hFvy30 16 (by decide)).trans ((hFvy27 16 (by decide)).trans (fn rfl (by decide))))
            have hkpy68 : Fvy30 17 = F 17 := ((hFvy30 17 (by decide)).trans ((hFvy27 17 (by decide)).trans (fn rfl (by decide))))
            have hkpy69 : Fvy30 18 = F 18 := ((hFvy30 18 (by decide)).trans ((hFvy27 18 (by decide)).trans (fn rfl (by decide))))
            have hkpy70 : Fvy30 19 = F 19 := ((hFvy30 19 (by decide)).trans ((hFvy27 19 (by decide)).trans (fn rfl (by decide))))
            have hkpy71 : Fvy30 20 = F 20 := ((hFvy30 20 (by decide)).trans ((hFvy27 20 (by decide)).trans (fn rfl (by decide))))
            have hkpy72 : Fvy30 21 = F 21 := ((hFvy30 21 (by decide)).trans ((hFvy27 21 (by decide)).trans (fn rfl (by decide))))
            have hkpy73 : Fvy30 23 = F 23 := ((hFvy30 23 (by decide)).trans ((hFvy27 23 (by decide)).trans (fn rfl (by decide))))
            have hkpy74 : Fvy30 24 = F 24 := ((hFvy30 24 (by decide)).trans ((hFvy27 24 (by decide)).trans (fn rfl (by decide))))
            have hkpy75 : Fvy30 25 = F 25 := ((hFvy30 25 (by decide)).trans ((hFvy27 25 (by decide)).trans (fn rfl (by decide))))
            have hkpy76 : Fvy30 26 = F 26 := ((hFvy30 26 (by decide)).trans ((hFvy27 26 (by decide)).trans (fn rfl (by decide))))
            have hkpy77 : Fvy30 27 = F 27 := ((hFvy30 27 (by decide)).trans ((hFvy27 27 (by decide)).trans (fn rfl (by decide))))
            have hkpy78 : Fvy30 29 = F 29 := ((hFvy30 29 (by decide)).trans ((hFvy27 29 (by decide)).trans (fn rfl (by decide))))
            exact z_iret C hr hlk dX10_slope_168 (by decide) (by decide) ⟨0, rfl, rfl, rfl, by omega, ⟨_, _, hMy63, ⟨hkpy64, hkpy65, hkpy66, hkpy67, hkpy68, hkpy69, hkpy70, hkpy71, hkpy72, hkpy73, hkpy74⟩, ⟨(hkpy75.trans hp25), (hkpy76.trans hp26), (hkpy77.trans hp27), (hkpy78.trans hp29)⟩, (fun j _ => rfl)⟩, fun j j1 => by rw [hfvy30 _ (by omega)]; rw [hfvy27 _ (by omega)]; rw [egy25, va_up_ne _ _ (by omega)]⟩
          · refine z_iconst (z := 1) C dX10_slope_163 rfl ?_
            refine z_goto (tgt := 168) C dX10_slope_164 (by decide) ?_
            have hFy79 : ∀ f, f ≠ 12 → Fvy30 f = F f := fun f n12 => ((hFvy30 f n12).trans ((hFvy27 f n12).trans ((uZ_n _ _ n12).trans rfl)))
            have hey80 : Fvy30 13 = F 13 := ((hFvy30 13 (by decide)).trans ((hFvy27 13 (by decide)).trans (fn rfl (by decide))))
            have hey81 : Fvy30 14 = F 14 := ((hFvy30 14 (by decide)).trans ((hFvy27 14 (by decide)).trans (fn rfl (by decide))))
            have hey82 : Fvy30 15 = F 15 := ((hFvy30 15 (by decide)).trans ((hFvy27 15 (by decide)).trans (fn rfl (by decide))))
            have hey83 : Fvy30 16 = F 16 := ((hFvy30 16 (by decide)).trans ((hFvy27 16 (by decide)).trans (fn rfl (by decide))))
            have hey84 : Fvy30 17 = F 17 := ((hFvy30 17 (by decide)).trans ((hFvy27 17 (by decide)).trans (fn rfl (by decide))))
            have hey85 : Fvy30 18 = F 18 := ((hFvy30 18 (by decide)).trans ((hFvy27 18 (by decide)).trans (fn rfl (by decide))))
            have hey86 : Fvy30 19 = F 19 := ((hFvy30 19 (by decide)).trans ((hFvy27 19 (by decide)).trans (fn rfl (by decide))))
            have hey87 : Fvy30 20 = F 20 := ((hFvy30 20 (by decide)).trans ((hFvy27 20 (by decide)).trans (fn rfl (by decide))))
            have hey88 : Fvy30 21 = F 21 := ((hFvy30 21 (by decide)).trans ((hFvy27 21 (by decide)).trans (fn rfl (by decide))))
            have hey89 : Fvy30 23 = F 23 := ((hFvy30 23 (by decide)).trans ((hFvy27 23 (by decide)).trans (fn rfl (by decide))))
            have hey90 : Fvy30 25 = F 25 := ((hFvy30 25 (by decide)).trans ((hFvy27 25 (by decide)).trans (fn rfl (by decide))))
            have hey91 : Fvy30 27 = F 27 := ((hFvy30 27 (by decide)).trans ((hFvy27 27 (by decide)).trans (fn rfl (by decide))))
            have hey92 : Fvy30 28 = F 28 := ((hFvy30 28 (by decide)).trans ((hFvy27 28 (by decide)).trans (fn rfl (by decide))))
            have hey93 : Fvy30 29 = F 29 := ((hFvy30 29 (by decide)).trans ((hFvy27 29 (by decide)).trans (fn rfl (by decide))))
            have hKy94 : okF Fvy30 := okF.mv hM.2.1 hey80 hey81 hey82 hey83 hey84 hey85 hey86 hey87 hey88 hey89 hey90 hey91 hey92 hey93
            have hMy95 : okMr cs ad gvy30 i (x + 1) Fvy30 r st op ai fa mu tb tp := okMr.upd hM hcvy30 hKy94 (fun f a => hFy79 f (by omega)) hgy36 (hA.mono (by omega)) (fun j a b => by
                exact Or.inl (by rw [hfvy30 _ (by omega)]; rw [hfvy27 _ (by omega)]; rw [egy25, va_up_ne _ _ (by omega)]))
            have hkpy96 : Fvy30 13 = F 13 := ((hFvy30 13 (by decide)).trans ((hFvy27 13 (by decide)).trans (fn rfl (by decide))))
            have hkpy97 : Fvy30 14 = F 14 := ((hFvy30 14 (by decide)).trans ((hFvy27 14 (by decide)).trans (fn rfl (by decide))))
            have hkpy98 : Fvy30 15 = F 15 := ((hFvy30 15 (by decide)).trans ((hFvy27 15 (by decide)).trans (fn rfl (by decide))))
            have hkpy99 : Fvy30 16 = F 16 := ((hFvy30 16 (by decide)).trans ((hFvy27 16 (by decide)).trans (fn rfl (by decide))))
            have hkpy100 : Fvy30 17 = F 17 := ((hFvy30 17 (by decide)).trans ((hFvy27 17 (by decide)).trans (fn rfl (by decide))))
            have hkpy101 : Fvy30 18 = F 18 := ((hFvy30 18 (by decide)).trans ((hFvy27 18 (by decide)).trans (fn rfl (by decide))))
            have hkpy102 : Fvy30 19 = F 19 := ((hFvy30 19 (by decide)).trans ((hFvy27 19 (by decide)).trans (fn rfl (by decide))))
            have hkpy103 : Fvy30 20 = F 20 := ((hFvy30 20 (by decide)).trans ((hFvy27 20 (by decide)).trans (fn rfl (by decide))))
            have hkpy104 : Fvy30 21 = F 21 := ((hFvy30 21 (by decide)).trans ((hFvy27 21 (by decide)).trans (fn rfl (by decide))))
            have hkpy105 : Fvy30 23 = F 23 := ((hFvy30 23 (by decide)).trans ((hFvy27 23 (by decide)).trans (fn rfl (by decide))))
            have hkpy106 : Fvy30 24 = F 24 := ((hFvy30 24 (by decide)).trans ((hFvy27 24 (by decide)).trans (fn rfl (by decide))))
            have hkpy107 : Fvy30 25 = F 25 := ((hFvy30 25 (by decide)).trans ((hFvy27 25 (by decide)).trans (fn rfl (by decide))))
            have hkpy108 : Fvy30 26 = F 26 := ((hFvy30 26 (by decide)).trans ((hFvy27 26 (by decide)).trans (fn rfl (by decide))))
            have hkpy109 : Fvy30 27 = F 27 := ((hFvy30 27 (by decide)).trans ((hFvy27 27 (by decide)).trans (fn rfl (by decide))))
            have hkpy110 : Fvy30 29 = F 29 := ((hFvy30 29 (by decide)).trans ((hFvy27 29 (by decide)).trans (fn rfl (by decide))))
            exact z_iret C hr hlk dX10_slope_168 (by decide) (by decide) ⟨1, rfl, rfl, rfl, by omega, ⟨_, _, hMy95, ⟨hkpy96, hkpy97, hkpy98, hkpy99, hkpy100, hkpy101, hkpy102, hkpy103, hkpy104, hkpy105, hkpy106⟩, ⟨(hkpy107.trans hp25), (hkpy108.trans hp26), (hkpy109.trans hp27), (hkpy110.trans hp29)⟩, (fun j _ => rfl)⟩, fun j j1 => by rw [hfvy30 _ (by omega)]; rw [hfvy27 _ (by omega)]; rw [egy25, va_up_ne _ _ (by omega)]⟩
        · rcases (show z1 = 0 ∨ z1 = 1 ∨ z1 = 2 ∨ z1 = 3 ∨ z1 = 4 ∨ z1 = 5 ∨ z1 = 6 ∨ z1 = 7 ∨ z1 = 8 by omega) with rfl | rfl | rfl | rfl | rfl | rfl | rfl | rfl | rfl
          · refine z_tin (off := 49) (tgt := 80) C dX10_slope_31 (by omega) (by omega) (by omega) rfl (by decide) ?_
            refine z_aload_n C 0 dX10_slope_80 rfl ?_
            refine z_get (v := .ref (ad (i + 2))) C (lt_A0 hN rfl) hay1 hcvy30 rfl inA_X10 1 (by decide) q_1460 rfl rfl dX10_slope_81 ?_
            refine z_iload_n C 1 dX10_slope_84 rfl ?_
            have hgy111 := up_n egy25 ha2 (ne_o (i := i) (c := 2) (d := 0) rfl)
            have hgy112 := (hfvy27 (i + 2) (ne_o (i := i) (c := 2) (d := 0) rfl)).trans hgy111
            have hgy113 := (hfvy30 (i + 2) (ne_o (i := i) (c := 2) (d := 0) rfl)).trans hgy112
            refine z_iald C (lt_A (c := 2) hN rfl) hay3 hgy113 (n) (by omega) (by omega) (by decide) dX10_slope_85 ?_
            obtain ⟨xy114, exy115, hxy116⟩ := zI_of (zI (st (n)))
            rw [exy115]
            have hgy117 := up_n egy25 ha1 (ne_o (i := i) (c := 1) (d := 0) rfl)
            have hgy118 := (hfvy27 (i + 1) (ne_o (i := i) (c := 1) (d := 0) rfl)).trans hgy117
            have hgy119 := (hfvy30 (i + 1) (ne_o (i := i) (c := 1) (d := 0) rfl)).trans hgy118
            have hFy120 : ∀ f, f ≠ 12 → Fvy30 f = F f := fun f n12 => ((hFvy30 f n12).trans ((hFvy27 f n12).trans ((uZ_n _ _ n12).trans rfl)))
            have hey121 : Fvy30 13 = F 13 := ((hFvy30 13 (by decide)).trans ((hFvy27 13 (by decide)).trans (fn rfl (by decide))))
            have hey122 : Fvy30 14 = F 14 := ((hFvy30 14 (by decide)).trans ((hFvy27 14 (by decide)).trans (fn rfl (by decide))))
            have hey123 : Fvy30 15 = F 15 := ((hFvy30 15 (by decide)).trans ((hFvy27 15 (by decide)).trans (fn rfl (by decide))))
            have hey124 : Fvy30 16 = F 16 := ((hFvy30 16 (by decide)).trans ((hFvy27 16 (by decide)).trans (fn rfl (by decide))))
            have hey125 : Fvy30 17 = F 17 := ((hFvy30 17 (by decide)).trans ((hFvy27 17 (by decide)).trans (fn rfl (by decide))))
            have hey126 : Fvy30 18 = F 18 := ((hFvy30 18 (by decide)).trans ((hFvy27 18 (by decide)).trans (fn rfl (by decide))))
            have hey127 : Fvy30 19 = F 19 := ((hFvy30 19 (by decide)).trans ((hFvy27 19 (by decide)).trans (fn rfl (by decide))))
            have hey128 : Fvy30 20 = F 20 := ((hFvy30 20 (by decide)).trans ((hFvy27 20 (by decide)).trans (fn rfl (by decide))))
            have hey129 : Fvy30 21 = F 21 := ((hFvy30 21 (by decide)).trans ((hFvy27 21 (by decide)).trans (fn rfl (by decide))))
            have hey130 : Fvy30 23 = F 23 := ((hFvy30 23 (by decide)).trans ((hFvy27 23 (by decide)).trans (fn rfl (by decide))))
            have hey131 : Fvy30 25 = F 25 := ((hFvy30 25 (by decide)).trans ((hFvy27 25 (by decide)).trans (fn rfl (by decide))))
            have hey132 : Fvy30 27 = F 27 := ((hFvy30 27 (by decide)).trans ((hFvy27 27 (by decide)).trans (fn rfl (by decide))))
            have hey133 : Fvy30 28 = F 28 := ((hFvy30 28 (by decide)).trans ((hFvy27 28 (by decide)).trans (fn rfl (by decide))))
            have hey134 : Fvy30 29 = F 29 := ((hFvy30 29 (by decide)).trans ((hFvy27 29 (by decide)).trans (fn rfl (by decide))))
            have hKy135 : okF Fvy30 := okF.mv hM.2.1 hey121 hey122 hey123 hey124 hey125 hey126 hey127 hey128 hey129 hey130 hey131 hey132 hey133 hey134
            have hMy136 : okMr cs ad gvy30 i (x + 1) Fvy30 r st op ai fa mu tb tp := okMr.upd hM hcvy30 hKy135 (fun f a => hFy120 f (by omega)) hgy119 (hA.mono (by omega)) (fun j a b => by
                exact Or.inl (by rw [hfvy30 _ (by omega)]; rw [hfvy27 _ (by omega)]; rw [egy25, va_up_ne _ _ (by omega)]))
            have hkpy137 : Fvy30 13 = F 13 := ((hFvy30 13 (by decide)).trans ((hFvy27 13 (by decide)).trans (fn rfl (by decide))))
            have hkpy138 : Fvy30 14 = F 14 := ((hFvy30 14 (by decide)).trans ((hFvy27 14 (by decide)).trans (fn rfl (by decide))))
            have hkpy139 : Fvy30 15 = F 15 := ((hFvy30 15 (by decide)).trans ((hFvy27 15 (by decide)).trans (fn rfl (by decide))))
            have hkpy140 : Fvy30 16 = F 16 := ((hFvy30 16 (by decide)).trans ((hFvy27 16 (by decide)).trans (fn rfl (by decide))))
            have hkpy141 : Fvy30 17 = F 17 := ((hFvy30 17 (by decide)).trans ((hFvy27 17 (by decide)).trans (fn rfl (by decide))))
            have hkpy142 : Fvy30 18 = F 18 := ((hFvy30 18 (by decide)).trans ((hFvy27 18 (by decide)).trans (fn rfl (by decide))))
            have hkpy143 : Fvy30 19 = F 19 := ((hFvy30 19 (by decide)).trans ((hFvy27 19 (by decide)).trans (fn rfl (by decide))))
            have hkpy144 : Fvy30 20 = F 20 := ((hFvy30 20 (by decide)).trans ((hFvy27 20 (by decide)).trans (fn rfl (by decide))))
            have hkpy145 : Fvy30 21 = F 21 := ((hFvy30 21 (by decide)).trans ((hFvy27 21 (by decide)).trans (fn rfl (by decide))))
            have hkpy146 : Fvy30 23 = F 23 := ((hFvy30 23 (by decide)).trans ((hFvy27 23 (by decide)).trans (fn rfl (by decide))))
            have hkpy147 : Fvy30 24 = F 24 := ((hFvy30 24 (by decide)).trans ((hFvy27 24 (by decide)).trans (fn rfl (by decide))))
            have hkpy148 : Fvy30 25 = F 25 := ((hFvy30 25 (by decide)).trans ((hFvy27 25 (by decide)).trans (fn rfl (by decide))))
            have hkpy149 : Fvy30 26 = F 26 := ((hFvy30 26 (by decide)).trans ((hFvy27 26 (by decide)).trans (fn rfl (by decide))))
            have hkpy150 : Fvy30 27 = F 27 := ((hFvy30 27 (by decide)).trans ((hFvy27 27 (by decide)).trans (fn rfl (by decide))))
            have hkpy151 : Fvy30 29 = F 29 := ((hFvy30 29 (by decide)).trans ((hFvy27 29 (by decide)).trans (fn rfl (by decide))))
            exact z_iret C hr hlk dX10_slope_86 (by decide) (by decide) ⟨xy114, rfl, rfl, rfl, by omega, ⟨_, _, hMy136, ⟨hkpy137, hkpy138, hkpy139, hkpy140, hkpy141, hkpy142, hkpy143, hkpy144, hkpy145, hkpy146, hkpy147⟩, ⟨(hkpy148.trans hp25), (hkpy149.trans hp26), (hkpy150.trans hp27), (hkpy151.trans hp29)⟩, (fun j _ => rfl)⟩, fun j j1 => by rw [hfvy30 _ (by omega)]; rw [hfvy27 _ (by omega)]; rw [egy25, va_up_ne _ _ (by omega)]⟩
          · refine z_tin (off := 56) (tgt := 87) C dX10_slope_31 (by omega) (by omega) (by omega) rfl (by decide) ?_
            refine z_aload_n C 0 dX10_slope_87 rfl ?_
            refine z_get (v := .ref (ad (i + 3))) C (lt_A0 hN rfl) hay1 hcvy30 rfl inA_X10 2 (by decide) q_1461 rfl rfl dX10_slope_88 ?_
            refine z_iload_n C 1 dX10_slope_91 rfl ?_
            have hgy152 := up_n egy25 ha3 (ne_o (i := i) (c := 3) (d := 0) rfl)
            have hgy153 := (hfvy27 (i + 3) (ne_o (i := i) (c := 3) (d := 0) rfl)).trans hgy152
            have hgy154 := (hfvy30 (i + 3) (ne_o (i := i) (c := 3) (d := 0) rfl)).trans hgy153
            refine z_iald C (lt_A (c := 3) hN rfl) hay4 hgy154 (n) (by omega) (by omega) (by decide) dX10_slope_92 ?_
            have hrfy155 := hop (n) (by omega)
            have hgy156 := up_n egy25 ha1 (ne_o (i := i) (c := 1) (d := 0) rfl)
            have hgy157 := (hfvy27 (i + 1) (ne_o (i := i) (c := 1) (d := 0) rfl)).trans hgy156
            have hgy158 := (hfvy30 (i + 1) (ne_o (i := i) (c := 1) (d := 0) rfl)).trans hgy157
            have hFy159 : ∀ f, f ≠ 12 → Fvy30 f = F f := fun f n12 => ((hFvy30 f n12).trans ((hFvy27 f n12).trans ((uZ_n _ _ n12).trans rfl)))
            have hey160 : Fvy30 13 = F 13 := ((hFvy30 13 (by decide)).trans ((hFvy27 13 (by decide)).trans (fn rfl (by decide))))
            have hey161 : Fvy30 14 = F 14 := ((hFvy30 14 (by decide)).trans ((hFvy27 14 (by decide)).trans (fn rfl (by decide))))
            have hey162 : Fvy30 15 = F 15 := ((hFvy30 15 (by decide)).trans ((hFvy27 15 (by decide)).trans (fn rfl (by decide))))
            have hey163 : Fvy30 16 = F 16 := ((hFvy30 16 (by decide)).trans ((hFvy27 16 (by decide)).trans (fn rfl (by decide))))
            have hey164 : Fvy30 17 = F 17 := ((hFvy30 17 (by decide)).trans ((hFvy27 17 (by decide)).trans (fn rfl (by decide))))
            have hey165 : Fvy30 18 = F 18 := ((hFvy30 18 (by decide)).trans ((hFvy27 18 (by decide)).trans (fn rfl (by decide))))
            have hey166 : Fvy30 19 = F 19 := ((hFvy30 19 (by decide)).trans ((hFvy27 19 (by decide)).trans (fn rfl (by decide))))
            have hey167 : Fvy30 20 = F 20 := ((hFvy30 20 (by decide)).trans ((hFvy27 20 (by decide)).trans (fn rfl (by decide))))
            have hey168 : Fvy30 21 = F 21 := ((hFvy30 21 (by decide)).trans ((hFvy27 21 (by decide)).trans (fn rfl (by decide))))
            have hey169 : Fvy30 23 = F 23 := ((hFvy30 23 (by decide)).trans ((hFvy27 23 (by decide)).trans (fn rfl (by decide))))
            have hey170 : Fvy30 25 = F 25 := ((hFvy30 25 (by decide)).trans ((hFvy27 25 (by decide)).trans (fn rfl (by decide))))
            have hey171 : Fvy30 27 = F 27 := ((hFvy30 27 (by decide)).trans ((hFvy27 27 (by decide)).trans (fn rfl (by decide))))
            have hey172 : Fvy30 28 = F 28 := ((hFvy30 28 (by decide)).trans ((hFvy27 28 (by decide)).trans (fn rfl (by decide))))
            have hey173 : Fvy30 29 = F 29 := ((hFvy30 29 (by decide)).trans ((hFvy27 29 (by decide)).trans (fn rfl (by decide))))
            have hKy174 : okF Fvy30 := okF.mv hM.2.1 hey160 hey161 hey162 hey163 hey164 hey165 hey166 hey167 hey168 hey169 hey170 hey171 hey172 hey173
            have hMy175 : okMr cs ad gvy30 i (x + 1) Fvy30 r st op ai fa mu tb tp := okMr.upd hM hcvy30 hKy174 (fun f a => hFy159 f (by omega)) hgy158 (hA.mono (by omega)) (fun j a b => by
                exact Or.inl (by rw [hfvy30 _ (by omega)]; rw [hfvy27 _ (by omega)]; rw [egy25, va_up_ne _ _ (by omega)]))
            have hkpy176 : Fvy30 13 = F 13 := ((hFvy30 13 (by decide)).trans ((hFvy27 13 (by decide)).trans (fn rfl (by decide))))
            have hkpy177 : Fvy30 14 = F 14 := ((hFvy30 14 (by decide)).trans ((hFvy27 14 (by decide)).trans (fn rfl (by decide))))
            have hkpy178 : Fvy30 15 = F 15 := ((hFvy30 15 (by decide)).trans ((hFvy27 15 (by decide)).trans (fn rfl (by decide))))
            have hkpy179 : Fvy30 16 = F 16 := ((hFvy30 16 (by decide)).trans ((hFvy27 16 (by decide)).trans (fn rfl (by decide))))
            have hkpy180 : Fvy30 17 = F 17 := ((hFvy30 17 (by decide)).trans ((hFvy27 17 (by decide)).trans (fn rfl (by decide))))
            have hkpy181 : Fvy30 18 = F 18 := ((hFvy30 18 (by decide)).trans ((hFvy27 18 (by decide)).trans (fn rfl (by decide))))
            have hkpy182 : Fvy30 19 = F 19 := ((hFvy30 19 (by decide)).trans ((hFvy27 19 (by decide)).trans (fn rfl (by decide))))
            have hkpy183 : Fvy30 20 = F 20 := ((hFvy30 20 (by decide)).trans ((hFvy27 20 (by decide)).trans (fn rfl (by decide))))
            have hkpy184 : Fvy30 21 = F 21 := ((hFvy30 21 (by decide)).trans ((hFvy27 21 (by decide)).trans (fn rfl (by decide))))
            have hkpy185 : Fvy30 23 = F 23 := ((hFvy30 23 (by decide)).trans ((hFvy27 23 (by decide)).trans (fn rfl (by decide))))
            have hkpy186 : Fvy30 24 = F 24 := ((hFvy30 24 (by decide)).trans ((hFvy27 24 (by decide)).trans (fn rfl (by decide))))
            have hkpy187 : Fvy30 25 = F 25 := ((hFvy30 25 (by decide)).trans ((hFvy27 25 (by decide)).trans (fn rfl (by decide))))
            have hkpy188 : Fvy30 26 = F 26 := ((hFvy30 26 (by decide)).trans ((hFvy27 26 (by decide)).trans (fn rfl (by decide))))
            have hkpy189 : Fvy30 27 = F 27 := ((hFvy30 27 (by decide)).trans ((hFvy27 27 (by decide)).trans (fn rfl (by decide))))
            have hkpy190 : Fvy30 29 = F 29 := ((hFvy30 29 (by decide)).trans ((hFvy27 29 (by decide)).trans (fn rfl (by decide))))
            exact z_iret C hr hlk dX10_slope_93 (by decide) (by decide) ⟨op (n), rfl, rfl, rfl, by omega, ⟨_, _, hMy175, ⟨hkpy176, hkpy177, hkpy178, hkpy179, hkpy180, hkpy181, hkpy182, hkpy183, hkpy184, hkpy185, hkpy186⟩, ⟨(hkpy187.trans hp25), (hkpy188.trans hp26), (hkpy189.trans hp27), (hkpy190.trans hp29)⟩, (fun j _ => rfl)⟩, fun j j1 => by rw [hfvy30 _ (by omega)]; rw [hfvy27 _ (by omega)]; rw [egy25, va_up_ne _ _ (by omega)]⟩
          · refine z_tin (off := 63) (tgt := 94) C dX10_slope_31 (by omega) (by omega) (by omega) rfl (by decide) ?_
            refine z_aload_n C 0 dX10_slope_94 rfl ?_
            refine z_iconst (z := 0) C dX10_slope_95 rfl ?_
            refine z_iload_n C 1 dX10_slope_96 rfl ?_
            obtain ⟨py191, hpy191⟩ : ∃ p9 : Nat, 0 + 6 + 86 * n = p9 := ⟨_, rfl⟩
            have hmyy192 := ((okA.at0 hA).1.1 n (by omega)).1
            rw [hpy191] at hmyy192
            have hgy193 := up_n egy25 ha1 (ne_o (i := i) (c := 1) (d := 0) rfl)
            have hgy194 := (hfvy27 (i + 1) (ne_o (i := i) (c := 1) (d := 0) rfl)).trans hgy193
            have hgy195 := (hfvy30 (i + 1) (ne_o (i := i) (c := 1) (d := 0) rfl)).trans hgy194
            refine z_cV (As := [.int (zI (0)), .int (zI ((n : Int)))]) (rest := []) (ci := 12) C (c_X10_many l D A cs tt N ad _ i hN _ hcvy30 _ hgy195 0 n py191 hpy191 (by omega) (by omega)) (lt_A0 hN rfl) hay1 hcvy30 rfl rfl mv_yX10_many q_1733 hd_yX10_many (by decide) (Nat.le_of_ble_eq_true rfl) (by decide) dX10_slope_97 rfl (kI0 fun vy196 gvy196 hvy196 => ?_)
            obtain ⟨rfl, rfl⟩ := hvy196
            have hFy197 : ∀ f, f ≠ 12 → Fvy30 f = F f := fun f n12 => ((hFvy30 f n12).trans ((hFvy27 f n12).trans ((uZ_n _ _ n12).trans rfl)))
            have hey198 : Fvy30 13 = F 13 := ((hFvy30 13 (by decide)).trans ((hFvy27 13 (by decide)).trans (fn rfl (by decide))))
            have hey199 : Fvy30 14 = F 14 := ((hFvy30 14 (by decide)).trans ((hFvy27 14 (by decide)).trans (fn rfl (by decide))))
            have hey200 : Fvy30 15 = F 15 := ((hFvy30 15 (by decide)).trans ((hFvy27 15 (by decide)).trans (fn rfl (by decide))))
            have hey201 : Fvy30 16 = F 16 := ((hFvy30 16 (by decide)).trans ((hFvy27 16 (by decide)).trans (fn rfl (by decide))))
            have hey202 : Fvy30 17 = F 17 := ((hFvy30 17 (by decide)).trans ((hFvy27 17 (by decide)).trans (fn rfl (by decide))))
            have hey203 : Fvy30 18 = F 18 := ((hFvy30 18 (by decide)).trans ((hFvy27 18 (by decide)).trans (fn rfl (by decide))))
            have hey204 : Fvy30 19 = F 19 := ((hFvy30 19 (by decide)).trans ((hFvy27 19 (by decide)).trans (fn rfl (by decide))))
            have hey205 : Fvy30 20 = F 20 := ((hFvy30 20 (by decide)).trans ((hFvy27 20 (by decide)).trans (fn rfl (by decide))))
            have hey206 : Fvy30 21 = F 21 := ((hFvy30 21 (by decide)).trans ((hFvy27 21 (by decide)).trans (fn rfl (by decide))))
            have hey207 : Fvy30 23 = F 23 := ((hFvy30 23 (by decide)).trans ((hFvy27 23 (by decide)).trans (fn rfl (by decide))))
            have hey208 : Fvy30 25 = F 25 := ((hFvy30 25 (by decide)).trans ((hFvy27 25 (by decide)).trans (fn rfl (by decide))))
            have hey209 : Fvy30 27 = F 27 := ((hFvy30 27 (by decide)).trans ((hFvy27 27 (by decide)).trans (fn rfl (by decide))))
            have hey210 : Fvy30 28 = F 28 := ((hFvy30 28 (by decide)).trans ((hFvy27 28 (by decide)).trans (fn rfl (by decide))))
            have hey211 : Fvy30 29 = F 29 := ((hFvy30 29 (by decide)).trans ((hFvy27 29 (by decide)).trans (fn rfl (by decide))))
            have hKy212 : okF Fvy30 := okF.mv hM.2.1 hey198 hey199 hey200 hey201 hey202 hey203 hey204 hey205 hey206 hey207 hey208 hey209 hey210 hey211
            have hMy213 : okMr cs ad gvy30 i (x + 1) Fvy30 r st op ai fa mu tb tp := okMr.upd hM hcvy30 hKy212 (fun f a => hFy197 f (by omega)) hgy195 (hA.mono (by omega)) (fun j a b => by
                exact Or.inl (by rw [hfvy30 _ (by omega)]; rw [hfvy27 _ (by omega)]; rw [egy25, va_up_ne _ _ (by omega)]))
            have hkpy214 : Fvy30 13 = F 13 := ((hFvy30 13 (by decide)).trans ((hFvy27 13 (by decide)).trans (fn rfl (by decide))))
            have hkpy215 : Fvy30 14 = F 14 := ((hFvy30 14 (by decide)).trans ((hFvy27 14 (by decide)).trans (fn rfl (by decide))))
            have hkpy216 : Fvy30 15 = F 15 := ((hFvy30 15 (by decide)).trans ((hFvy27 15 (by decide)).trans (fn rfl (by decide))))
            have hkpy217 : Fvy30 16 = F 16 := ((hFvy30 16 (by decide)).trans ((hFvy27 16 (by decide)).trans (fn rfl (by decide))))
            have hkpy218 : Fvy30 17 = F 17 := ((hFvy30 17 (by decide)).trans ((hFvy27 17 (by decide)).trans (fn rfl (by decide))))
            have hkpy219 : Fvy30 18 = F 18 := ((hFvy30 18 (by decide)).trans ((hFvy27 18 (by decide)).trans (fn rfl (by decide))))
            have hkpy220 : Fvy30 19 = F 19 := ((hFvy30 19 (by decide)).trans ((hFvy27 19 (by decide)).trans (fn rfl (by decide))))
            have hkpy221 : Fvy30 20 = F 20 := ((hFvy30 20 (by decide)).trans ((hFvy27 20 (by decide)).trans (fn rfl (by decide))))
            have hkpy222 : Fvy30 21 = F 21 := ((hFvy30 21 (by decide)).trans ((hFvy27 21 (by decide)).trans (fn rfl (by decide))))
            have hkpy223 : Fvy30 23 = F 23 := ((hFvy30 23 (by decide)).trans ((hFvy27 23 (by decide)).trans (fn rfl (by decide))))
            have hkpy224 : Fvy30 24 = F 24 := ((hFvy30 24 (by decide)).trans ((hFvy27 24 (by decide)).trans (fn rfl (by decide))))
            have hkpy225 : Fvy30 25 = F 25 := ((hFvy30 25 (by decide)).trans ((hFvy27 25 (by decide)).trans (fn rfl (by decide))))
            have hkpy226 : Fvy30 26 = F 26 := ((hFvy30 26 (by decide)).trans ((hFvy27 26 (by decide)).trans (fn rfl (by decide))))
            have hkpy227 : Fvy30 27 = F 27 := ((hFvy30 27 (by decide)).trans ((hFvy27 27 (by decide)).trans (fn rfl (by decide))))
            have hkpy228 : Fvy30 29 = F 29 := ((hFvy30 29 (by decide)).trans ((hFvy27 29 (by decide)).trans (fn rfl (by decide))))
            exact z_iret C hr hlk dX10_slope_100 (by decide) (by decide) ⟨r (py191), rfl, rfl, rfl, by omega, ⟨_, _, hMy213, ⟨hkpy214, hkpy215, hkpy216, hkpy217, hkpy218, hkpy219, hkpy220, hkpy221, hkpy222, hkpy223, hkpy224⟩, ⟨(hkpy225.trans hp25), (hkpy226.trans hp26), (hkpy227.trans hp27), (hkpy228.trans hp29)⟩, (fun j _ => rfl)⟩, fun j j1 => by rw [hfvy30 _ (by omega)]; rw [hfvy27 _ (by omega)]; rw [egy25, va_up_ne _ _ (by omega)]⟩
          · refine z_tin (off := 70) (tgt := 101) C dX10_slope_31 (by omega) (by omega) (by omega) rfl (by decide) ?_
            refine z_aload_n C 0 dX10_slope_101 rfl ?_
            refine z_iconst (z := 0) C dX10_slope_102 rfl ?_
            refine z_iload_n C 1 dX10_slope_103 rfl ?_
            refine z_iconst (z := 3) C dX10_slope_104 rfl ?_
            obtain ⟨py229, hpy229⟩ : ∃ p9 : Nat, 0 + 6 + 86 * n = p9 := ⟨_, rfl⟩
            have hgy230 := up_n egy25 ha1 (ne_o (i := i) (c := 1) (d := 0) rfl)
            have hgy231 := (hfvy27 (i + 1) (ne_o (i := i) (c := 1) (d := 0) rfl)).trans hgy230
            have hgy232 := (hfvy30 (i + 1) (ne_o (i := i) (c := 1) (d := 0) rfl)).trans hgy231
            have hqy234 : qS r py229 := (((okA.at0 hA).1.1 n (by omega)).of (p2 := py229) (by omega)).q (by have hb9 := mBb (t := r 0 + x) (by omega); omega)
            have hmky235 := hqy234.1
            refine z_cV (As := [.int (zI (0)), .int (zI ((n : Int))), .int (zI (3))]) (rest := []) (ci := 12) C (c_X10_sumA l D A cs tt N ad _ i hN _ hcvy30 _ hgy232 0 n py229 hpy229 (by omega) (by omega) hqy234 3 (by omega)) (lt_A0 hN rfl) hay1 hcvy30 rfl rfl mv_yX10_sum q_1745 hd_yX10_sum (by decide) (Nat.le_of_ble_eq_true rfl) (by decide) dX10_slope_105 rfl (kI0 fun vy233 gvy233 hvy233 => ?_)
            obtain ⟨hvy233, rfl⟩ := hvy233
            have hFy236 : ∀ f, f ≠ 12 → Fvy30 f = F f := fun f n12 => ((hFvy30 f n12).trans ((hFvy27 f n12).trans ((uZ_n _ _ n12).trans rfl)))
            have hey237 : Fvy30 13 = F 13 := ((hFvy30 13 (by decide)).trans ((hFvy27 13 (by decide)).trans (fn rfl (by decide))))
            have hey238 : Fvy30 14 = F 14 := ((hFvy30 14 (by decide)).trans ((hFvy27 14 (by decide)).trans (fn rfl (by decide))))
            have hey239 : Fvy30 15 = F 15 := ((hFvy30 15 (by decide)).trans ((hFvy27 15 (by decide)).trans (fn rfl (by decide))))
            have hey240 : Fvy30 16 = F 16 := ((hFvy30 16 (by decide)).trans ((hFvy27 16 (by decide)).trans (fn rfl (by decide))))
            have hey241 : Fvy30 17 = F 17 := ((hFvy30 17 (by decide)).trans ((hFvy27 17 (by decide)).trans (fn rfl (by decide))))
            have hey242 : Fvy30 18 = F 18 := ((hFvy30 18 (by decide)).trans ((hFvy27 18 (by decide)).trans (fn rfl (by decide))))
            have hey243 : Fvy30 19 = F 19 := ((hFvy30 19 (by decide)).trans ((hFvy27 19 (by decide)).trans (fn rfl (by decide))))
            have hey244 : Fvy30 20 = F 20 := ((hFvy30 20 (by decide)).trans ((hFvy27 20 (by decide)).trans (fn rfl (by decide))))
            have hey245 : Fvy30 21 = F 21 := ((hFvy30 21 (by decide)).trans ((hFvy27 21 (by decide)).trans (fn rfl (by decide))))
            have hey246 : Fvy30 23 = F 23 := ((hFvy30 23 (by decide)).trans ((hFvy27 23 (by decide)).trans (fn rfl (by decide))))
            have hey247 : Fvy30 25 = F 25 := ((hFvy30 25 (by decide)).trans ((hFvy27 25 (by decide)).trans (fn rfl (by decide))))
            have hey248 : Fvy30 27 = F 27 := ((hFvy30 27 (by decide)).trans ((hFvy27 27 (by decide)).trans (fn rfl (by decide))))
            have hey249 : Fvy30 28 = F 28 := ((hFvy30 28 (by decide)).trans ((hFvy27 28 (by decide)).trans (fn rfl (by decide))))
            have hey250 : Fvy30 29 = F 29 := ((hFvy30 29 (by decide)).trans ((hFvy27 29 (by decide)).trans (fn rfl (by decide))))
            have hKy251 : okF Fvy30 := okF.mv hM.2.1 hey237 hey238 hey239 hey240 hey241 hey242 hey243 hey244 hey245 hey246 hey247 hey248 hey249 hey250
            have hMy252 : okMr cs ad gvy30 i (x + 1) Fvy30 r st op ai fa mu tb tp := okMr.upd hM hcvy30 hKy251 (fun f a => hFy236 f (by omega)) hgy232 (hA.mono (by omega)) (fun j a b => by
                exact Or.inl (by rw [hfvy30 _ (by omega)]; rw [hfvy27 _ (by omega)]; rw [egy25, va_up_ne _ _ (by omega)]))
            have hkpy253 : Fvy30 13 = F 13 := ((hFvy30 13 (by decide)).trans ((hFvy27 13 (by decide)).trans (fn rfl (by decide))))
            have hkpy254 : Fvy30 14 = F 14 := ((hFvy30 14 (by decide)).trans ((hFvy27 14 (by decide)).trans (fn rfl (by decide))))
            have hkpy255 : Fvy30 15 = F 15 := ((hFvy30 15 (by decide)).trans ((hFvy27 15 (by decide)).trans (fn rfl (by decide))))
            have hkpy256 : Fvy30 16 = F 16 := ((hFvy30 16 (by decide)).trans ((hFvy27 16 (by decide)).trans (fn rfl (by decide))))
            have hkpy257 : Fvy30 17 = F 17 := ((hFvy30 17 (by decide)).trans ((hFvy27 17 (by decide)).trans (fn rfl (by decide))))
            have hkpy258 : Fvy30 18 = F 18 := ((hFvy30 18 (by decide)).trans ((hFvy27 18 (by decide)).trans (fn rfl (by decide))))
            have hkpy259 : Fvy30 19 = F 19 := ((hFvy30 19 (by decide)).trans ((hFvy27 19 (by decide)).trans (fn rfl (by decide))))
            have hkpy260 : Fvy30 20 = F 20 := ((hFvy30 20 (by decide)).trans ((hFvy27 20 (by decide)).trans (fn rfl (by decide))))
            have hkpy261 : Fvy30 21 = F 21 := ((hFvy30 21 (by decide)).trans ((hFvy27 21 (by decide)).trans (fn rfl (by decide))))
            have hkpy262 : Fvy30 23 = F 23 := ((hFvy30 23 (by decide)).trans ((hFvy27 23 (by decide)).trans (fn rfl (by decide))))
            have hkpy263 : Fvy30 24 = F 24 := ((hFvy30 24 (by decide)).trans ((hFvy27 24 (by decide)).trans (fn rfl (by decide))))
            have hkpy264 : Fvy30 25 = F 25 := ((hFvy30 25 (by decide)).trans ((hFvy27 25 (by decide)).trans (fn rfl (by decide))))
            have hkpy265 : Fvy30 26 = F 26 := ((hFvy30 26 (by decide)).trans ((hFvy27 26 (by decide)).trans (fn rfl (by decide))))
            have hkpy266 : Fvy30 27 = F 27 := ((hFvy30 27 (by decide)).trans ((hFvy27 27 (by decide)).trans (fn rfl (by decide))))
            have hkpy267 : Fvy30 29 = F 29 := ((hFvy30 29 (by decide)).trans ((hFvy27 29 (by decide)).trans (fn rfl (by decide))))
            exact z_iret C hr hlk dX10_slope_108 (by decide) (by decide) ⟨vy233, rfl, rfl, rfl, by omega, ⟨_, _, hMy252, ⟨hkpy253, hkpy254, hkpy255, hkpy256, hkpy257, hkpy258, hkpy259, hkpy260, hkpy261, hkpy262, hkpy263⟩, ⟨(hkpy264.trans hp25), (hkpy265.trans hp26), (hkpy266.trans hp27), (hkpy267.trans hp29)⟩, (fun j _ => rfl)⟩, fun j j1 => by rw [hfvy30 _ (by omega)]; rw [hfvy27 _ (by omega)]; rw [egy25, va_up_ne _ _ (by omega)]⟩
          · refine z_tin (off := 78) (tgt := 109) C dX10_slope_31 (by omega) (by omega) (by omega) rfl (by decide) ?_
            refine z_aload_n C 0 dX10_slope_109 rfl ?_
            refine z_iconst (z := 0) C dX10_slope_110 rfl ?_
            refine z_iload_n C 1 dX10_slope_111 rfl ?_
            refine z_iconst (z := 1) C dX10_slope_112 rfl ?_
            obtain ⟨py268, hpy268⟩ : ∃ p9 : Nat, 0 + 6 + 86 * n = p9 := ⟨_, rfl⟩
            have hgy269 := up_n egy25 ha1 (ne_o (i := i) (c := 1) (d := 0) rfl)
            have hgy270 := (hfvy27 (i + 1) (ne_o (i := i) (c := 1) (d := 0) rfl)).trans hgy269
            have hgy271 := (hfvy30 (i + 1) (ne_o (i := i) (c := 1) (d := 0) rfl)).trans hgy270
            have hqy273 : qS r py268 := (((okA.at0 hA).1.1 n (by omega)).of (p2 := py268) (by omega)).q (by have hb9 := mBb (t := r 0 + x) (by omega); omega)
            have hmky274 := hqy273.1
            refine z_cV (As := [.int (zI (0)), .int (zI ((n : Int))), .int (zI (1))]) (rest := []) (ci := 12) C (c_X10_sumA l D A cs tt N ad _ i hN _ hcvy30 _ hgy271 0 n py268 hpy268 (by omega) (by omega) hqy273 1 (by omega)) (lt_A0 hN rfl) hay1 hcvy30 rfl rfl mv_yX10_sum q_1745 hd_yX10_sum (by decide) (Nat.le_of_ble_eq_true rfl) (by decide) dX10_slope_113 rfl (kI0 fun vy272 gvy272 hvy272 => ?_)
            obtain ⟨hvy272, rfl⟩ := hvy272
            have hFy275 : ∀ f, f ≠ 12 → Fvy30 f = F f := fun f n12 => ((hFvy30 f n12).trans ((hFvy27 f n12).trans ((uZ_n _ _ n12).trans rfl)))
            have hey276 : Fvy30 13 = F 13 := ((hFvy30 13 (by decide)).trans ((hFvy27 13 (by decide)).trans (fn rfl (by decide))))
            have hey277 : Fvy30 14 = F 14 := ((hFvy30 14 (by decide)).trans ((hFvy27 14 (by decide)).trans (fn rfl (by decide))))
            have hey278 : Fvy30 15 = F 15 := ((hFvy30 15 (by decide)).trans ((hFvy27 15 (by decide)).trans (fn rfl (by decide))))
            have hey279 : Fvy30 16 = F 16 := ((hFvy30 16 (by decide)).trans ((hFvy27 16 (by decide)).trans (fn rfl (by decide))))
            have hey280 : Fvy30 17 = F 17 := ((hFvy30 17 (by decide)).trans ((hFvy27 17 (by decide)).trans (fn rfl (by decide))))
            have hey281 : Fvy30 18 = F 18 := ((hFvy30 18 (by decide)).trans ((hFvy27 18 (by decide)).trans (fn rfl (by decide))))
            have hey282 : Fvy30 19 = F 19 := ((hFvy30 19 (by decide)).trans ((hFvy27 19 (by decide)).trans (fn rfl (by decide))))
            have hey283 : Fvy30 20 = F 20 := ((hFvy30 20 (by decide)).trans ((hFvy27 20 (by decide)).trans (fn rfl (by decide))))
            have hey284 : Fvy30 21 = F 21 := ((hFvy30 21 (by decide)).trans ((hFvy27 21 (by decide)).trans (fn rfl (by decide))))
            have hey285 : Fvy30 23 = F 23 := ((hFvy30 23 (by decide)).trans ((hFvy27 23 (by decide)).trans (fn rfl (by decide))))
            have hey286 : Fvy30 25 = F 25 := ((hFvy30 25 (by decide)).trans ((hFvy27 25 (by decide)).trans (fn rfl (by decide))))
            have hey287 : Fvy30 27 = F 27 := ((hFvy30 27 (by decide)).trans ((hFvy27 27 (by decide)).trans (fn rfl (by decide))))
            have hey288 : Fvy30 28 = F 28 := ((hFvy30 28 (by decide)).trans ((hFvy27 28 (by decide)).trans (fn rfl (by decide))))
            have hey289 : Fvy30 29 = F 29 := ((hFvy30 29 (by decide)).trans ((hFvy27 29 (by decide)).trans (fn rfl (by decide))))
            have hKy290 : okF Fvy30 := okF.mv hM.2.1 hey276 hey277 hey278 hey279 hey280 hey281 hey282 hey283 hey284 hey285 hey286 hey287 hey288 hey289
            have hMy291 : okMr cs ad gvy30 i (x + 1) Fvy30 r st op ai fa mu tb tp := okMr.upd hM hcvy30 hKy290 (fun f a => hFy275 f (by omega)) hgy271 (hA.mono (by omega)) (fun j a b => by
                exact Or.inl (by rw [hfvy30 _ (by omega)]; rw [hfvy27 _ (by omega)]; rw [egy25, va_up_ne _ _ (by omega)]))
            have hkpy292 : Fvy30 13 = F 13 := ((hFvy30 13 (by decide)).trans ((hFvy27 13 (by decide)).trans (fn rfl (by decide))))
            have hkpy293 : Fvy30 14 = F 14 := ((hFvy30 14 (by decide)).trans ((hFvy27 14 (by decide)).trans (fn rfl (by decide))))
            have hkpy294 : Fvy30 15 = F 15 := ((hFvy30 15 (by decide)).trans ((hFvy27 15 (by decide)).trans (fn rfl (by decide))))
            have hkpy295 : Fvy30 16 = F 16 := ((hFvy30 16 (by decide)).trans ((hFvy27 16 (by decide)).trans (fn rfl (by decide))))
            have hkpy296 : Fvy30 17 = F 17 := ((hFvy30 17 (by decide)).trans ((hFvy27 17 (by decide)).trans (fn rfl (by decide))))
            have hkpy297 : Fvy30 18 = F 18 := ((hFvy30 18 (by decide)).trans ((hFvy27 18 (by decide)).trans (fn rfl (by decide))))
            have hkpy298 : Fvy30 19 = F 19 := ((hFvy30 19 (by decide)).trans ((hFvy27 19 (by decide)).trans (fn rfl (by decide))))
            have hkpy299 : Fvy30 20 = F 20 := ((hFvy30 20 (by decide)).trans ((hFvy27 20 (by decide)).trans (fn rfl (by decide))))
            have hkpy300 : Fvy30 21 = F 21 := ((hFvy30 21 (by decide)).trans ((hFvy27 21 (by decide)).trans (fn rfl (by decide))))
            have hkpy301 : Fvy30 23 = F 23 := ((hFvy30 23 (by decide)).trans ((hFvy27 23 (by decide)).trans (fn rfl (by decide))))
            have hkpy302 : Fvy30 24 = F 24 := ((hFvy30 24 (by decide)).trans ((hFvy27 24 (by decide)).trans (fn rfl (by decide))))
            have hkpy303 : Fvy30 25 = F 25 := ((hFvy30 25 (by decide)).trans ((hFvy27 25 (by decide)).trans (fn rfl (by decide))))
            have hkpy304 : Fvy30 26 = F 26 := ((hFvy30 26 (by decide)).trans ((hFvy27 26 (by decide)).trans (fn rfl (by decide))))
            have hkpy305 : Fvy30 27 = F 27 := ((hFvy30 27 (by decide)).trans ((hFvy27 27 (by decide)).trans (fn rfl (by decide))))
            have hkpy306 : Fvy30 29 = F 29 := ((hFvy30 29 (by decide)).trans ((hFvy27 29 (by decide)).trans (fn rfl (by decide))))
            exact z_iret C hr hlk dX10_slope_116 (by decide) (by decide) ⟨vy272, rfl, rfl, rfl, by omega, ⟨_, _, hMy291, ⟨hkpy292, hkpy293, hkpy294, hkpy295, hkpy296, hkpy297, hkpy298, hkpy299, hkpy300, hkpy301, hkpy302⟩, ⟨(hkpy303.trans hp25), (hkpy304.trans hp26), (hkpy305.trans hp27), (hkpy306.trans hp29)⟩, (fun j _ => rfl)⟩, fun j j1 => by rw [hfvy30 _ (by omega)]; rw [hfvy27 _ (by omega)]; rw [egy25, va_up_ne _ _ (by omega)]⟩
          · refine z_tin (off := 86) (tgt := 117) C dX10_slope_31 (by omega) (by omega) (by omega) rfl (by decide) ?_
            refine z_aload_n C 0 dX10_slope_117 rfl ?_
            refine z_iconst (z := 0) C dX10_slope_118 rfl ?_
            refine z_iload_n C 1 dX10_slope_119 rfl ?_
            refine z_iconst (z := 2) C dX10_slope_120 rfl ?_
            obtain ⟨py307, hpy307⟩ : ∃ p9 : Nat, 0 + 6 + 86 * n = p9 := ⟨_, rfl⟩
            have hgy308 := up_n egy25 ha1 (ne_o (i := i) (c := 1) (d := 0) rfl)
            have hgy309 := (hfvy27 (i + 1) (ne_o (i := i) (c := 1) (d := 0) rfl)).trans hgy308
            have hgy310 := (hfvy30 (i + 1) (ne_o (i := i) (c := 1) (d := 0) rfl)).trans hgy309
            have hqy312 : qS r py307 := (((okA.at0 hA).1.1 n (by omega)).of (p2 := py307) (by omega)).q (by have hb9 := mBb (t := r 0 + x) (by omega); omega)
            have hmky313 := hqy312.1
            refine z_cV (As := [.int (zI (0)), .int (zI ((n : Int))), .int (zI (2))]) (rest := []) (ci := 12) C (c_X10_sumA l D A cs tt N ad _ i hN _ hcvy30 _ hgy310 0 n py307 hpy307 (by omega) (by omega) hqy312 2 (by omega)) (lt_A0 hN rfl) hay1 hcvy30 rfl rfl mv_yX10_sum q_1745 hd_yX10_sum (by decide) (Nat.le_of_ble_eq_true rfl) (by decide) dX10_slope_121 rfl (kI0 fun vy311 gvy311 hvy311 => ?_)
            obtain ⟨hvy311, rfl⟩ := hvy311
            have hFy314 : ∀ f, f ≠ 12 → Fvy30 f = F f := fun f n12 => ((hFvy30 f n12).trans ((hFvy27 f n12).trans ((uZ_n _ _ n12).trans rfl)))
            have hey315 : Fvy30 13 = F 13 := ((hFvy30 13 (by decide)).trans ((hFvy27 13 (by decide)).trans (fn rfl (by decide))))
            have hey316 : Fvy30 14 = F 14 := ((hFvy30 14 (by decide)).trans ((hFvy27 14 (by decide)).trans (fn rfl (by decide))))
            have hey317 : Fvy30 15 = F 15 := ((hFvy30 15 (by decide)).trans ((hFvy27 15 (by decide)).trans (fn rfl (by decide))))
            have hey318 : Fvy30 16 = F 16 := ((hFvy30 16 (by decide)).trans ((hFvy27 16 (by decide)).trans (fn rfl (by decide))))
            have hey319 : Fvy30 17 = F 17 := ((hFvy30 17 (by decide)).trans ((hFvy27 17 (by decide)).trans (fn rfl (by decide))))
            have hey320 : Fvy30 18 = F 18 := ((hFvy30 18 (by decide)).trans ((hFvy27 18 (by decide)).trans (fn rfl (by decide))))
            have hey321 : Fvy30 19 = F 19 := ((hFvy30 19 (by decide)).trans ((hFvy27 19 (by decide)).trans (fn rfl (by decide))))
            have hey322 : Fvy30 20 = F 20 := ((hFvy30 20 (by decide)).trans ((hFvy27 20 (by decide)).trans (fn rfl (by decide))))
            have hey323 : Fvy30 21 = F 21 := ((hFvy30 21 (by decide)).trans ((hFvy27 21 (by decide)).trans (fn rfl (by decide))))
            have hey324 : Fvy30 23 = F 23 := ((hFvy30 23 (by decide)).trans ((hFvy27 23 (by decide)).trans (fn rfl (by decide))))
            have hey325 : Fvy30 25 = F 25 := ((hFvy30 25 (by decide)).trans ((hFvy27 25 (by decide)).trans (fn rfl (by decide))))
            have hey326 : Fvy30 27 = F 27 := ((hFvy30 27 (by decide)).trans ((hFvy27 27 (by decide)).trans (fn rfl (by decide))))
            have hey327 : Fvy30 28 = F 28 := ((hFvy30 28 (by decide)).trans ((hFvy27 28 (by decide)).trans (fn rfl (by decide))))
            have hey328 : Fvy30 29 = F 29 := ((hFvy30 29 (by decide)).trans ((hFvy27 29 (by decide)).trans (fn rfl (by decide))))
            have hKy329 : okF Fvy30 := okF.mv hM.2.1 hey315 hey316 hey317 hey318 hey319 hey320 hey321 hey322 hey323 hey324 hey325 hey326 hey327 hey328
            have hMy330 : okMr cs ad gvy30 i (x + 1) Fvy30 r st op ai fa mu tb tp := okMr.upd hM hcvy30 hKy329 (fun f a => hFy314 f (by omega)) hgy310 (hA.mono (by omega)) (fun j a b => by
                exact Or.inl (by rw [hfvy30 _ (by omega)]; rw [hfvy27 _ (by omega)]; rw [egy25, va_up_ne _ _ (by omega)]))
            have hkpy331 : Fvy30 13 = F 13 := ((hFvy30 13 (by decide)).trans ((hFvy27 13 (by decide)).trans (fn rfl (by decide))))
            have hkpy332 : Fvy30 14 = F 14 := ((hFvy30 14 (by decide)).trans ((hFvy27 14 (by decide)).trans (fn rfl (by decide))))
            have hkpy333 : Fvy30 15 = F 15 := ((hFvy30 15 (by decide)).trans ((hFvy27 15 (by decide)).trans (fn rfl (by decide))))
            have hkpy334 : Fvy30 16 = F 16 := ((hFvy30 16 (by decide)).trans ((hFvy27 16 (by decide)).trans (fn rfl (by decide))))
            have hkpy335 : Fvy30 17 = F 17 := ((hFvy30 17 (by decide)).trans ((hFvy27 17 (by decide)).trans (fn rfl (by decide))))
            have hkpy336 : Fvy30 18 = F 18 := ((hFvy30 18 (by decide)).trans ((hFvy27 18 (by decide)).trans (fn rfl (by decide))))
            have hkpy337 : Fvy30 19 = F 19 := ((hFvy30 19 (by decide)).trans ((hFvy27 19 (by decide)).trans (fn rfl (by decide))))
            have hkpy338 : Fvy30 20 = F 20 := ((hFvy30 20 (by decide)).trans ((hFvy27 20 (by decide)).trans (fn rfl (by decide))))
            have hkpy339 : Fvy30 21 = F 21 := ((hFvy30 21 (by decide)).trans ((hFvy27 21 (by decide)).trans (fn rfl (by decide))))
            have hkpy340 : Fvy30 23 = F 23 := ((hFvy30 23 (by decide)).trans ((hFvy27 23 (by decide)).trans (fn rfl (by decide))))
            have hkpy341 : Fvy30 24 = F 24 := ((hFvy30 24 (by decide)).trans ((hFvy27 24 (by decide)).trans (fn rfl (by decide))))
            have hkpy342 : Fvy30 25 = F 25 := ((hFvy30 25 (by decide)).trans ((hFvy27 25 (by decide)).trans (fn rfl (by decide))))
            have hkpy343 : Fvy30 26 = F 26 := ((hFvy30 26 (by decide)).trans ((hFvy27 26 (by decide)).trans (fn rfl (by decide))))
            have hkpy344 : Fvy30 27 = F 27 := ((hFvy30 27 (by decide)).trans ((hFvy27 27 (by decide)).trans (fn rfl (by decide))))
            have hkpy345 : Fvy30 29 = F 29 := ((hFvy30 29 (by decide)).trans ((hFvy27 29 (by decide)).trans (fn rfl (by decide))))
            exact z_iret C hr hlk dX10_slope_124 (by decide) (by decide) ⟨vy311, rfl, rfl, rfl, by omega, ⟨_, _, hMy330, ⟨hkpy331, hkpy332, hkpy333, hkpy334, hkpy335, hkpy336, hkpy337, hkpy338, hkpy339, hkpy340, hkpy341⟩, ⟨(hkpy342.trans hp25), (hkpy343.trans hp26), (hkpy344.trans hp27), (hkpy345.trans hp29)⟩, (fun j _ => rfl)⟩, fun j j1 => by rw [hfvy30 _ (by omega)]; rw [hfvy27 _ (by omega)]; rw [egy25, va_up_ne _ _ (by omega)]⟩
          · refine z_tin (off := 94) (tgt := 125) C dX10_slope_31 (by omega) (by omega) (by omega) rfl (by decide) ?_
            refine z_aload_n C 0 dX10_slope_125 rfl ?_
            refine z_get (v := .ref (ad (i + 1))) C (lt_A0 hN rfl) hay1 hcvy30 rfl inA_X10 0 (by decide) q_1459 rfl rfl dX10_slope_126 ?_
            refine z_bipush (z := 6) C dX10_slope_129 (by decide) ?_
            refine z_bipush (z := 86) C dX10_slope_131 (by decide) ?_
            refine z_iload_n C 1 dX10_slope_133 rfl ?_
            refine z_imul C dX10_slope_134 ?_
            refine z_iadd C dX10_slope_135 ?_
            refine z_iconst (z := 1) C dX10_slope_136 rfl ?_
            refine z_iadd C dX10_slope_137 ?_
            have hgy346 := up_n egy25 ha1 (ne_o (i := i) (c := 1) (d := 0) rfl)
            have hgy347 := (hfvy27 (i + 1) (ne_o (i := i) (c := 1) (d := 0) rfl)).trans hgy346
            have hgy348 := (hfvy30 (i + 1) (ne_o (i := i) (c := 1) (d := 0) rfl)).trans hgy347
            refine z_iald C (lt_A (c := 1) hN rfl) hay2 hgy348 (((6 + (86 * (n : Int))) + 1).toNat) (by omega) (by omega) (by decide) dX10_slope_138 ?_
            obtain ⟨xy349, exy350, hxy351⟩ := zI_of (zI (r (((6 + (86 * (n : Int))) + 1).toNat)))
            rw [exy350]
            have hFy352 : ∀ f, f ≠ 12 → Fvy30 f = F f := fun f n12 => ((hFvy30 f n12).trans ((hFvy27 f n12).trans ((uZ_n _ _ n12).trans rfl)))
            have hey353 : Fvy30 13 = F 13 := ((hFvy30 13 (by decide)).trans ((hFvy27 13 (by decide)).trans (fn rfl (by decide))))
            have hey354 : Fvy30 14 = F 14 := ((hFvy30 14 (by decide)).trans ((hFvy27 14 (by decide)).trans (fn rfl (by decide))))
            have hey355 : Fvy30 15 = F 15 := ((hFvy30 15 (by decide)).trans ((hFvy27 15 (by decide)).trans (fn rfl (by decide))))
            have hey356 : Fvy30 16 = F 16 := ((hFvy30 16 (by decide)).trans ((hFvy27 16 (by decide)).trans (fn rfl (by decide))))
            have hey357 : Fvy30 17 = F 17 := ((hFvy30 17 (by decide)).trans ((hFvy27 17 (by decide)).trans (fn rfl (by decide))))
            have hey358 : Fvy30 18 = F 18 := ((hFvy30 18 (by decide)).trans ((hFvy27 18 (by decide)).trans (fn rfl (by decide))))
            have hey359 : Fvy30 19 = F 19 := ((hFvy30 19 (by decide)).trans ((hFvy27 19 (by decide)).trans (fn rfl (by decide))))
            have hey360 : Fvy30 20 = F 20 := ((hFvy30 20 (by decide)).trans ((hFvy27 20 (by decide)).trans (fn rfl (by decide))))
            have hey361 : Fvy30 21 = F 21 := ((hFvy30 21 (by decide)).trans ((hFvy27 21 (by decide)).trans (fn rfl (by decide))))
            have hey362 : Fvy30 23 = F 23 := ((hFvy30 23 (by decide)).trans ((hFvy27 23 (by decide)).trans (fn rfl (by decide))))
            have hey363 : Fvy30 25 = F 25 := ((hFvy30 25 (by decide)).trans ((hFvy27 25 (by decide)).trans (fn rfl (by decide))))
            have hey364 : Fvy30 27 = F 27 := ((hFvy30 27 (by decide)).trans ((hFvy27 27 (by decide)).trans (fn rfl (by decide))))
            have hey365 : Fvy30 28 = F 28 := ((hFvy30 28 (by decide)).trans ((hFvy27 28 (by decide)).trans (fn rfl (by decide))))
            have hey366 : Fvy30 29 = F 29 := ((hFvy30 29 (by decide)).trans ((hFvy27 29 (by decide)).trans (fn rfl (by decide))))
            have hKy367 : okF Fvy30 := okF.mv hM.2.1 hey353 hey354 hey355 hey356 hey357 hey358 hey359 hey360 hey361 hey362 hey363 hey364 hey365 hey366
            have hMy368 : okMr cs ad gvy30 i (x + 1) Fvy30 r st op ai fa mu tb tp := okMr.upd hM hcvy30 hKy367 (fun f a => hFy352 f (by omega)) hgy348 (hA.mono (by omega)) (fun j a b => by
                exact Or.inl (by rw [hfvy30 _ (by omega)]; rw [hfvy27 _ (by omega)]; rw [egy25, va_up_ne _ _ (by omega)]))
            have hkpy369 : Fvy30 13 = F 13 := ((hFvy30 13 (by decide)).trans ((hFvy27 13 (by decide)).trans (fn rfl (by decide))))
            have hkpy370 : Fvy30 14 = F 14 := ((hFvy30 14 (by decide)).trans ((hFvy27 14 (by decide)).trans (fn rfl (by decide))))
            have hkpy371 : Fvy30 15 = F 15 := ((hFvy30 15 (by decide)).trans ((hFvy27 15 (by decide)).trans (fn rfl (by decide))))
            have hkpy372 : Fvy30 16 = F 16 := ((hFvy30 16 (by decide)).trans ((hFvy27 16 (by decide)).trans (fn rfl (by decide))))
            have hkpy373 : Fvy30 17 = F 17 := ((hFvy30 17 (by decide)).trans ((hFvy27 17 (by decide)).trans (fn rfl (by decide))))
            have hkpy374 : Fvy30 18 = F 18 := ((hFvy30 18 (by decide)).trans ((hFvy27 18 (by decide)).trans (fn rfl (by decide))))
            have hkpy375 : Fvy30 19 = F 19 := ((hFvy30 19 (by decide)).trans ((hFvy27 19 (by decide)).trans (fn rfl (by decide))))
            have hkpy376 : Fvy30 20 = F 20 := ((hFvy30 20 (by decide)).trans ((hFvy27 20 (by decide)).trans (fn rfl (by decide))))
            have hkpy377 : Fvy30 21 = F 21 := ((hFvy30 21 (by decide)).trans ((hFvy27 21 (by decide)).trans (fn rfl (by decide))))
            have hkpy378 : Fvy30 23 = F 23 := ((hFvy30 23 (by decide)).trans ((hFvy27 23 (by decide)).trans (fn rfl (by decide))))
            have hkpy379 : Fvy30 24 = F 24 := ((hFvy30 24 (by decide)).trans ((hFvy27 24 (by decide)).trans (fn rfl (by decide))))
            have hkpy380 : Fvy30 25 = F 25 := ((hFvy30 25 (by decide)).trans ((hFvy27 25 (by decide)).trans (fn rfl (by decide))))
            have hkpy381 : Fvy30 26 = F 26 := ((hFvy30 26 (by decide)).trans ((hFvy27 26 (by decide)).trans (fn rfl (by decide))))
            have hkpy382 : Fvy30 27 = F 27 := ((hFvy30 27 (by decide)).trans ((hFvy27 27 (by decide)).trans (fn rfl (by decide))))
            have hkpy383 : Fvy30 29 = F 29 := ((hFvy30 29 (by decide)).trans ((hFvy27 29 (by decide)).trans (fn rfl (by decide))))
            exact z_iret C hr hlk dX10_slope_139 (by decide) (by decide) ⟨xy349, rfl, rfl, rfl, by omega, ⟨_, _, hMy368, ⟨hkpy369, hkpy370, hkpy371, hkpy372, hkpy373, hkpy374, hkpy375, hkpy376, hkpy377, hkpy378, hkpy379⟩, ⟨(hkpy380.trans hp25), (hkpy381.trans hp26), (hkpy382.trans hp27), (hkpy383.trans hp29)⟩, (fun j _ => rfl)⟩, fun j j1 => by rw [hfvy30 _ (by omega)]; rw [hfvy27 _ (by omega)]; rw [egy25, va_up_ne _ _ (by omega)]⟩
          · refine z_tin (off := 109) (tgt := 140) C dX10_slope_31 (by omega) (by omega) (by omega) rfl (by decide) ?_
            refine z_aload_n C 0 dX10_slope_140 rfl ?_
            refine z_iconst (z := 0) C dX10_slope_141 rfl ?_
            refine z_iload_n C 1 dX10_slope_142 rfl ?_
            obtain ⟨py384, hpy384⟩ : ∃ p9 : Nat, 0 + 6 + 86 * n = p9 := ⟨_, rfl⟩
            have hgy385 := up_n egy25 ha1 (ne_o (i := i) (c := 1) (d := 0) rfl)
            have hgy386 := (hfvy27 (i + 1) (ne_o (i := i) (c := 1) (d := 0) rfl)).trans hgy385
            have hgy387 := (hfvy30 (i + 1) (ne_o (i := i) (c := 1) (d := 0) rfl)).trans hgy386
            have hgy389 := up_n egy25 ha2 (ne_o (i := i) (c := 2) (d := 0) rfl)
            have hgy390 := (hfvy27 (i + 2) (ne_o (i := i) (c := 2) (d := 0) rfl)).trans hgy389
            have hgy391 := (hfvy30 (i + 2) (ne_o (i := i) (c := 2) (d := 0) rfl)).trans hgy390
            have hgy392 := up_n egy25 ha7 (ne_o (i := i) (c := 7) (d := 0) rfl)
            have hgy393 := (hfvy27 (i + 7) (ne_o (i := i) (c := 7) (d := 0) rfl)).trans hgy392
            have hgy394 := (hfvy30 (i + 7) (ne_o (i := i) (c := 7) (d := 0) rfl)).trans hgy393
            have hqy395 : qS r py384 := (((okA.at0 hA).1.1 n (by omega)).of (p2 := py384) (by omega)).q (by have hb9 := mBb (t := r 0 + x) (by omega); omega)
            have hmky396 := hqy395.1
            refine z_cV (As := [.int (zI (0)), .int (zI ((n : Int)))]) (rest := []) (ci := 12) C (c_X10_weakest l D A cs tt N ad _ i hN _ hcvy30 _ hgy387 _ hgy391 _ hgy394 0 n py384 hpy384 (by omega) (by omega) hqy395) (lt_A0 hN rfl) hay1 hcvy30 rfl rfl mv_yX10_weakest q_1807 hd_yX10_weakest (by decide) (Nat.le_of_ble_eq_true rfl) (by decide) dX10_slope_143 rfl (kI0 fun vy388 gvy388 hvy388 => ?_)
            obtain ⟨hvy388, rfl⟩ := hvy388
            have hFy397 : ∀ f, f ≠ 12 → Fvy30 f = F f := fun f n12 => ((hFvy30 f n12).trans ((hFvy27 f n12).trans ((uZ_n _ _ n12).trans rfl)))
            have hey398 : Fvy30 13 = F 13 := ((hFvy30 13 (by decide)).trans ((hFvy27 13 (by decide)).trans (fn rfl (by decide))))
            have hey399 : Fvy30 14 = F 14 := ((hFvy30 14 (by decide)).trans ((hFvy27 14 (by decide)).trans (fn rfl (by decide))))
            have hey400 : Fvy30 15 = F 15 := ((hFvy30 15 (by decide)).trans ((hFvy27 15 (by decide)).trans (fn rfl (by decide))))
            have hey401 : Fvy30 16 = F 16 := ((hFvy30 16 (by decide)).trans ((hFvy27 16 (by decide)).trans (fn rfl (by decide))))
            have hey402 : Fvy30 17 = F 17 := ((hFvy30 17 (by decide)).trans ((hFvy27 17 (by decide)).trans (fn rfl (by decide))))
            have hey403 : Fvy30 18 = F 18 := ((hFvy30 18 (by decide)).trans ((hFvy27 18 (by decide)).trans (fn rfl (by decide))))
            have hey404 : Fvy30 19 = F 19 := ((hFvy30 19 (by decide)).trans ((hFvy27 19 (by decide)).trans (fn rfl (by decide))))
            have hey405 : Fvy30 20 = F 20 := ((hFvy30 20 (by decide)).trans ((hFvy27 20 (by decide)).trans (fn rfl (by decide))))
            have hey406 : Fvy30 21 = F 21 := ((hFvy30 21 (by decide)).trans ((hFvy27 21 (by decide)).trans (fn rfl (by decide))))
            have hey407 : Fvy30 23 = F 23 := ((hFvy30 23 (by decide)).trans ((hFvy27 23 (by decide)).trans (fn rfl (by decide))))
            have hey408 : Fvy30 25 = F 25 := ((hFvy30 25 (by decide)).trans ((hFvy27 25 (by decide)).trans (fn rfl (by decide))))
            have hey409 : Fvy30 27 = F 27 := ((hFvy30 27 (by decide)).trans ((hFvy27 27 (by decide)).trans (fn rfl (by decide))))
            have hey410 : Fvy30 28 = F 28 := ((hFvy30 28 (by decide)).trans ((hFvy27 28 (by decide)).trans (fn rfl (by decide))))
            have hey411 : Fvy30 29 = F 29 := ((hFvy30 29 (by decide)).trans ((hFvy27 29 (by decide)).trans (fn rfl (by decide))))
            have hKy412 : okF Fvy30 := okF.mv hM.2.1 hey398 hey399 hey400 hey401 hey402 hey403 hey404 hey405 hey406 hey407 hey408 hey409 hey410 hey411
            have hMy413 : okMr cs ad gvy30 i (x + 1) Fvy30 r st op ai fa mu tb tp := okMr.upd hM hcvy30 hKy412 (fun f a => hFy397 f (by omega)) hgy387 (hA.mono (by omega)) (fun j a b => by
                exact Or.inl (by rw [hfvy30 _ (by omega)]; rw [hfvy27 _ (by omega)]; rw [egy25, va_up_ne _ _ (by omega)]))
            have hkpy414 : Fvy30 13 = F 13 := ((hFvy30 13 (by decide)).trans ((hFvy27 13 (by decide)).trans (fn rfl (by decide))))
            have hkpy415 : Fvy30 14 = F 14 := ((hFvy30 14 (by decide)).trans ((hFvy27 14 (by decide)).trans (fn rfl (by decide))))
            have hkpy416 : Fvy30 15 = F 15 := ((hFvy30 15 (by decide)).trans ((hFvy27 15 (by decide)).trans (fn rfl (by decide))))
            have hkpy417 : Fvy30 16 = F 16 := ((hFvy30 16 (by decide)).trans ((hFvy27 16 (by decide)).trans (fn rfl (by decide))))
            have hkpy418 : Fvy30 17 = F 17 := ((hFvy30 17 (by decide)).trans ((hFvy27 17 (by decide)).trans (fn rfl (by decide))))
            have hkpy419 : Fvy30 18 = F 18 := ((hFvy30 18 (by decide)).trans ((hFvy27 18 (by decide)).trans (fn rfl (by decide))))
            have hkpy420 : Fvy30 19 = F 19 := ((hFvy30 19 (by decide)).trans ((hFvy27 19 (by decide)).trans (fn rfl (by decide))))
            have hkpy421 : Fvy30 20 = F 20 := ((hFvy30 20 (by decide)).trans ((hFvy27 20 (by decide)).trans (fn rfl (by decide))))
            have hkpy422 : Fvy30 21 = F 21 := ((hFvy30 21 (by decide)).trans ((hFvy27 21 (by decide)).trans (fn rfl (by decide))))
            have hkpy423 : Fvy30 23 = F 23 := ((hFvy30 23 (by decide)).trans ((hFvy27 23 (by decide)).trans (fn rfl (by decide))))
            have hkpy424 : Fvy30 24 = F 24 := ((hFvy30 24 (by decide)).trans ((hFvy27 24 (by decide)).trans (fn rfl (by decide))))
            have hkpy425 : Fvy30 25 = F 25 := ((hFvy30 25 (by decide)).trans ((hFvy27 25 (by decide)).trans (fn rfl (by decide))))
            have hkpy426 : Fvy30 26 = F 26 := ((hFvy30 26 (by decide)).trans ((hFvy27 26 (by decide)).trans (fn rfl (by decide))))
            have hkpy427 : Fvy30 27 = F 27 := ((hFvy30 27 (by decide)).trans ((hFvy27 27 (by decide)).trans (fn rfl (by decide))))
            have hkpy428 : Fvy30 29 = F 29 := ((hFvy30 29 (by decide)).trans ((hFvy27 29 (by decide)).trans (fn rfl (by decide))))
            exact z_iret C hr hlk dX10_slope_146 (by decide) (by decide) ⟨vy388, rfl, rfl, rfl, by omega, ⟨_, _, hMy413, ⟨hkpy414, hkpy415, hkpy416, hkpy417, hkpy418, hkpy419, hkpy420, hkpy421, hkpy422, hkpy423, hkpy424⟩, ⟨(hkpy425.trans hp25), (hkpy426.trans hp26), (hkpy427.trans hp27), (hkpy428.trans hp29)⟩, (fun j _ => rfl)⟩, fun j j1 => by rw [hfvy30 _ (by omega)]; rw [hfvy27 _ (by omega)]; rw [egy25, va_up_ne _ _ (by omega)]⟩
          · refine z_tin (off := 116) (tgt := 147) C dX10_slope_31 (by omega) (by omega) (by omega) rfl (by decide) ?_
            refine z_aload_n C 0 dX10_slope_147 rfl ?_
            refine z_iconst (z := 0) C dX10_slope_148 rfl ?_
            refine z_iload_n C 1 dX10_slope_149 rfl ?_
            obtain ⟨py429, hpy429⟩ : ∃ p9 : Nat, 0 + 6 + 86 * n = p9 := ⟨_, rfl⟩
            have hgy430 := up_n egy25 ha1 (ne_o (i := i) (c := 1) (d := 0) rfl)
            have hgy431 := (hfvy27 (i + 1) (ne_o (i := i) (c := 1) (d := 0) rfl)).trans hgy430
            have hgy432 := (hfvy30 (i + 1) (ne_o (i := i) (c := 1) (d := 0) rfl)).trans hgy431
            have hgy434 := up_n egy25 ha2 (ne_o (i := i) (c := 2) (d := 0) rfl)
            have hgy435 := (hfvy27 (i + 2) (ne_o (i := i) (c := 2) (d := 0) rfl)).trans hgy434
            have hgy436 := (hfvy30 (i + 2) (ne_o (i := i) (c := 2) (d := 0) rfl)).trans hgy435
            have hgy437 := up_n egy25 ha7 (ne_o (i := i) (c := 7) (d := 0) rfl)
            have hgy438 := (hfvy27 (i + 7) (ne_o (i := i) (c := 7) (d := 0) rfl)).trans hgy437
            have hgy439 := (hfvy30 (i + 7) (ne_o (i := i) (c := 7) (d := 0) rfl)).trans hgy438
            have hqy440 : qS r py429 := (((okA.at0 hA).1.1 n (by omega)).of (p2 := py429) (by omega)).q (by have hb9 := mBb (t := r 0 + x) (by omega); omega)
            have hmky441 := hqy440.1
            refine z_cV (As := [.int (zI (0)), .int (zI ((n : Int)))]) (rest := []) (ci := 12) C (c_X10_leastRatio l D A cs tt N ad _ i hN _ hcvy30 _ hgy432 _ hgy436 _ hgy439 0 n py429 hpy429 (by omega) (by omega) hqy440) (lt_A0 hN rfl) hay1 hcvy30 rfl rfl mv_yX10_leastRatio q_1760 hd_yX10_leastRatio (by decide) (Nat.le_of_ble_eq_true rfl) (by decide) dX10_slope_150 rfl (kI0 fun vy433 gvy433 hvy433 => ?_)
            obtain ⟨hvy433, rfl⟩ := hvy433
            have hFy442 : ∀ f, f ≠ 12 → Fvy30 f = F f := fun f n12 => ((hFvy30 f n12).trans ((hFvy27 f n12).trans ((uZ_n _ _ n12).trans rfl)))
            have hey443 : Fvy30 13 = F 13 := ((hFvy30 13 (by decide)).trans ((hFvy27 13 (by decide)).trans (fn rfl (by decide))))
            have hey444 : Fvy30 14 = F 14 := ((hFvy30 14 (by decide)).trans ((hFvy27 14 (by decide)).trans (fn rfl (by decide))))
            have hey445 : Fvy30 15 = F 15 := ((hFvy30 15 (by decide)).trans ((hFvy27 15 (by decide)).trans (fn rfl (by decide))))
            have hey446 : Fvy30 16 = F 16 := ((hFvy30 16 (by decide)).trans ((hFvy27 16 (by decide)).trans (fn rfl (by decide))))
            have hey447 : Fvy30 17 = F 17 := ((hFvy30 17 (by decide)).trans ((hFvy27 17 (by decide)).trans (fn rfl (by decide))))
            have hey448 : Fvy30 18 = F 18 := ((hFvy30 18 (by decide)).trans ((hFvy27 18 (by decide)).trans (fn rfl (by decide))))
            have hey449 : Fvy30 19 = F 19 := ((hFvy30 19 (by decide)).trans ((hFvy27 19 (by decide)).trans (fn rfl (by decide))))
            have hey450 : Fvy30 20 = F 20 := ((hFvy30 20 (by decide)).trans ((hFvy27 20 (by decide)).trans (fn rfl (by decide))))
            have hey451 : Fvy30 21 = F 21 := ((hFvy30 21 (by decide)).trans ((hFvy27 21 (by decide)).trans (fn rfl (by decide))))
            have hey452 : Fvy30 23 = F 23 := ((hFvy30 23 (by decide)).trans ((hFvy27 23 (by decide)).trans (fn rfl (by decide))))
            have hey453 : Fvy30 25 = F 25 := ((hFvy30 25 (by decide)).trans ((hFvy27 25 (by decide)).trans (fn rfl (by decide))))
            have hey454 : Fvy30 27 = F 27 := ((hFvy30 27 (by decide)).trans ((hFvy27 27 (by decide)).trans (fn rfl (by decide))))
            have hey455 : Fvy30 28 = F 28 := ((hFvy30 28 (by decide)).trans ((hFvy27 28 (by decide)).trans (fn rfl (by decide))))
            have hey456 : Fvy30 29 = F 29 := ((hFvy30 29 (by decide)).trans ((hFvy27 29 (by decide)).trans (fn rfl (by decide))))
            have hKy457 : okF Fvy30 := okF.mv hM.2.1 hey443 hey444 hey445 hey446 hey447 hey448 hey449 hey450 hey451 hey452 hey453 hey454 hey455 hey456
            have hMy458 : okMr cs ad gvy30 i (x + 1) Fvy30 r st op ai fa mu tb tp := okMr.upd hM hcvy30 hKy457 (fun f a => hFy442 f (by omega)) hgy432 (hA.mono (by omega)) (fun j a b => by
                exact Or.inl (by rw [hfvy30 _ (by omega)]; rw [hfvy27 _ (by omega)]; rw [egy25, va_up_ne _ _ (by omega)]))
            have hkpy459 : Fvy30 13 = F 13 := ((hFvy30 13 (by decide)).trans ((hFvy27 13 (by decide)).trans (fn rfl (by decide))))
            have hkpy460 : Fvy30 14 = F 14 := ((hFvy30 14 (by decide)).trans ((hFvy27 14 (by decide)).trans (fn rfl (by decide))))
            have hkpy461 : Fvy30 15 = F 15 := ((hFvy30 15 (by decide)).trans ((hFvy27 15 (by decide)).trans (fn rfl (by decide))))
            have hkpy462 : Fvy30 16 = F 16 := ((hFvy30 16 (by decide)).trans ((hFvy27 16 (by decide)).trans (fn rfl (by decide))))
            have hkpy463 : Fvy30 17 = F 17 := ((hFvy30 17 (by decide)).trans ((hFvy27 17 (by decide)).trans (fn rfl (by decide))))
            have hkpy464 : Fvy30 18 = F 18 := ((hFvy30 18 (by decide)).trans ((hFvy27 18 (by decide)).trans (fn rfl (by decide))))
            have hkpy465 : Fvy30 19 = F 19 := ((hFvy30 19 (by decide)).trans ((hFvy27 19 (by decide)).trans (fn rfl (by decide))))
            have hkpy466 : Fvy30 20 = F 20 := ((hFvy30 20 (by decide)).trans ((hFvy27 20 (by decide)).trans (fn rfl (by decide))))
            have hkpy467 : Fvy30 21 = F 21 := ((hFvy30 21 (by decide)).trans ((hFvy27 21 (by decide)).trans (fn rfl (by decide))))
            have hkpy468 : Fvy30 23 = F 23 := ((hFvy30 23 (by decide)).trans ((hFvy27 23 (by decide)).trans (fn rfl (by decide))))
            have hkpy469 : Fvy30 24 = F 24 := ((hFvy30 24 (by decide)).trans ((hFvy27 24 (by decide)).trans (fn rfl (by decide))))
            have hkpy470 : Fvy30 25 = F 25 := ((hFvy30 25 (by decide)).trans ((hFvy27 25 (by decide)).trans (fn rfl (by decide))))
            have hkpy471 : Fvy30 26 = F 26 := ((hFvy30 26 (by decide)).trans ((hFvy27 26 (by decide)).trans (fn rfl (by decide))))
            have hkpy472 : Fvy30 27 = F 27 := ((hFvy30 27 (by decide)).trans ((hFvy27 27 (by decide)).trans (fn rfl (by decide))))
            have hkpy473 : Fvy30 29 = F 29 := ((hFvy30 29 (by decide)).trans ((hFvy27 29 (by decide)).trans (fn rfl (by decide))))
            exact z_iret C hr hlk dX10_slope_153 (by decide) (by decide) ⟨vy433, rfl, rfl, rfl, by omega, ⟨_, _, hMy458, ⟨hkpy459, hkpy460, hkpy461, hkpy462, hkpy463, hkpy464, hkpy465, hkpy466, hkpy467, hkpy468, hkpy469⟩, ⟨(hkpy470.trans hp25), (hkpy471.trans hp26), (hkpy472.trans hp27), (hkpy473.trans hp29)⟩, (fun j _ => rfl)⟩, fun j j1 => by rw [hfvy30 _ (by omega)]; rw [hfvy27 _ (by omega)]; rw [egy25, va_up_ne _ _ (by omega)]⟩
      · refine z_if_ne (tgt := 30) C dX10_slope_25 (by decide) (by omega) (fun h => absurd h (by omega)) (fun _ => ?_)
        refine z_iconst (z := 0) C dX10_slope_28 rfl ?_
        have hgy474 := up_n egy25 ha1 (ne_o (i := i) (c := 1) (d := 0) rfl)
        have hgy475 := (hfvy27 (i + 1) (ne_o (i := i) (c := 1) (d := 0) rfl)).trans hgy474
        have hgy476 := (hfvy30 (i + 1) (ne_o (i := i) (c := 1) (d := 0) rfl)).trans hgy475
        have hFy477 : ∀ f, f ≠ 12 → Fvy30 f = F f := fun f n12 => ((hFvy30 f n12).trans ((hFvy27 f n12).trans ((uZ_n _ _ n12).trans rfl)))
        have hey478 : Fvy30 13 = F 13 := ((hFvy30 13 (by decide)).trans ((hFvy27 13 (by decide)).trans (fn rfl (by decide))))
        have hey479 : Fvy30 14 = F 14 := ((hFvy30 14 (by decide)).trans ((hFvy27 14 (by decide)).trans (fn rfl (by decide))))
        have hey480 : Fvy30 15 = F 15 := ((hFvy30 15 (by decide)).trans ((hFvy27 15 (by decide)).trans (fn rfl (by decide))))
        have hey481 : Fvy30 16 = F 16 := ((hFvy30 16 (by decide)).trans ((hFvy27 16 (by decide)).trans (fn rfl (by decide))))
        have hey482 : Fvy30 17 = F 17 := ((hFvy30 17 (by decide)).trans ((hFvy27 17 (by decide)).trans (fn rfl (by decide))))
        have hey483 : Fvy30 18 = F 18 := ((hFvy30 18 (by decide)).trans ((hFvy27 18 (by decide)).trans (fn rfl (by decide))))
        have hey484 : Fvy30 19 = F 19 := ((hFvy30 19 (by decide)).trans ((hFvy27 19 (by decide)).trans (fn rfl (by decide))))
        have hey485 : Fvy30 20 = F 20 := ((hFvy30 20 (by decide)).trans ((hFvy27 20 (by decide)).trans (fn rfl (by decide))))
        have hey486 : Fvy30 21 = F 21 := ((hFvy30 21 (by decide)).trans ((hFvy27 21 (by decide)).trans (fn rfl (by decide))))
        have hey487 : Fvy30 23 = F 23 := ((hFvy30 23 (by decide)).trans ((hFvy27 23 (by decide)).trans (fn rfl (by decide))))
        have hey488 : Fvy30 25 = F 25 := ((hFvy30 25 (by decide)).trans ((hFvy27 25 (by decide)).trans (fn rfl (by decide))))
        have hey489 : Fvy30 27 = F 27 := ((hFvy30 27 (by decide)).trans ((hFvy27 27 (by decide)).trans (fn rfl (by decide))))
        have hey490 : Fvy30 28 = F 28 := ((hFvy30 28 (by decide)).trans ((hFvy27 28 (by decide)).trans (fn rfl (by decide))))
        have hey491 : Fvy30 29 = F 29 := ((hFvy30 29 (by decide)).trans ((hFvy27 29 (by decide)).trans (fn rfl (by decide))))
        have hKy492 : okF Fvy30 := okF.mv hM.2.1 hey478 hey479 hey480 hey481 hey482 hey483 hey484 hey485 hey486 hey487 hey488 hey489 hey490 hey491
        have hMy493 : okMr cs ad gvy30 i (x + 1) Fvy30 r st op ai fa mu tb tp := okMr.upd hM hcvy30 hKy492 (fun f a => hFy477 f (by omega)) hgy476 (hA.mono (by omega)) (fun j a b => by
            exact Or.inl (by rw [hfvy30 _ (by omega)]; rw [hfvy27 _ (by omega)]; rw [egy25, va_up_ne _ _ (by omega)]))
        have hkpy494 : Fvy30 13 = F 13 := ((hFvy30 13 (by decide)).trans ((hFvy27 13 (by decide)).trans (fn rfl (by decide))))
        have hkpy495 : Fvy30 14 = F 14 := ((hFvy30 14 (by decide)).trans ((hFvy27 14 (by decide)).trans (fn rfl (by decide))))
        have hkpy496 : Fvy30 15 = F 15 := ((hFvy30 15 (by decide)).trans ((hFvy27 15 (by decide)).trans (fn rfl (by decide))))
        have hkpy497 : Fvy30 16 = F 16 := ((hFvy30 16 (by decide)).trans ((hFvy27 16 (by decide)).trans (fn rfl (by decide))))
        have hkpy498 : Fvy30 17 = F 17 := ((hFvy30 17 (by decide)).trans ((hFvy27 17 (by decide)).trans (fn rfl (by decide))))
        have hkpy499 : Fvy30 18 = F 18 := ((hFvy30 18 (by decide)).trans ((hFvy27 18 (by decide)).trans (fn rfl (by decide))))
        have hkpy500 : Fvy30 19 = F 19 := ((hFvy30 19 (by decide)).trans ((hFvy27 19 (by decide)).trans (fn rfl (by decide))))
        have hkpy501 : Fvy30 20 = F 20 := ((hFvy30 20 (by decide)).trans ((hFvy27 20 (by decide)).trans (fn rfl (by decide))))
        have hkpy502 : Fvy30 21 = F 21 := ((hFvy30 21 (by decide)).trans ((hFvy27 21 (by decide)).trans (fn rfl (by decide))))
        have hkpy503 : Fvy30 23 = F 23 := ((hFvy30 23 (by decide)).trans ((hFvy27 23 (by decide)).trans (fn rfl (by decide))))
        have hkpy504 : Fvy30 24 = F 24 := ((hFvy30 24 (by decide)).trans ((hFvy27 24 (by decide)).trans (fn rfl (by decide))))
        have hkpy505 : Fvy30 25 = F 25 := ((hFvy30 25 (by decide)).trans ((hFvy27 25 (by decide)).trans (fn rfl (by decide))))
        have hkpy506 : Fvy30 26 = F 26 := ((hFvy30 26 (by decide)).trans ((hFvy27 26 (by decide)).trans (fn rfl (by decide))))
        have hkpy507 : Fvy30 27 = F 27 := ((hFvy30 27 (by decide)).trans ((hFvy27 27 (by decide)).trans (fn rfl (by decide))))
        have hkpy508 : Fvy30 29 = F 29 := ((hFvy30 29 (by decide)).trans ((hFvy27 29 (by decide)).trans (fn rfl (by decide))))
        exact z_iret C hr hlk dX10_slope_29 (by decide) (by decide) ⟨0, rfl, rfl, rfl, by omega, ⟨_, _, hMy493, ⟨hkpy494, hkpy495, hkpy496, hkpy497, hkpy498, hkpy499, hkpy500, hkpy501, hkpy502, hkpy503, hkpy504⟩, ⟨(hkpy505.trans hp25), (hkpy506.trans hp26), (hkpy507.trans hp27), (hkpy508.trans hp29)⟩, (fun j _ => rfl)⟩, fun j j1 => by rw [hfvy30 _ (by omega)]; rw [hfvy27 _ (by omega)]; rw [egy25, va_up_ne _ _ (by omega)]⟩
    · refine z_iconst (z := 1) C dX10_slope_21 rfl ?_
      have hey510 : Fvy27 12 = Fvy27 12 := rfl
      refine z_cV (As := [.int (zI (0)), .int (zI (1))]) (rest := []) (ci := 12) C (c_X10_right l D A cs tt N ad _ i hN _ hcvy27 (by omega) (0) (by omega) (1) (by omega)) (lt_A0 hN rfl) hay1 hcvy27 rfl rfl mv_yX10_right q_1648 hd_yX10_right (by decide) (Nat.le_of_ble_eq_true rfl) (by decide) dX10_slope_22 rfl (kI0 fun vy509 gvy509 hvy509 => ?_)
      obtain ⟨hrvy509, ⟨Fvy509, hcvy509, htvy509, hFvy509⟩, hfvy509⟩ := hvy509
      obtain rfl : vy509 = 0 := by omega
      refine z_if_ne (tgt := 30) C dX10_slope_25 (by decide) (by omega) (fun h => absurd h (by omega)) (fun _ => ?_)
      refine z_iconst (z := 0) C dX10_slope_28 rfl ?_
      have hgy511 := up_n egy25 ha1 (ne_o (i := i) (c := 1) (d := 0) rfl)
      have hgy512 := (hfvy27 (i + 1) (ne_o (i := i) (c := 1) (d := 0) rfl)).trans hgy511
      have hgy513 := (hfvy509 (i + 1) (ne_o (i := i) (c := 1) (d := 0) rfl)).trans hgy512
      have hFy514 : ∀ f, f ≠ 12 → Fvy509 f = F f := fun f n12 => ((hFvy509 f n12).trans ((hFvy27 f n12).trans ((uZ_n _ _ n12).trans rfl)))
      have hey515 : Fvy509 13 = F 13 := ((hFvy509 13 (by decide)).trans ((hFvy27 13 (by decide)).trans (fn rfl (by decide))))
      have hey516 : Fvy509 14 = F 14 := ((hFvy509 14 (by decide)).trans ((hFvy27 14 (by decide)).trans (fn rfl (by decide))))
      have hey517 : Fvy509 15 = F 15 := ((hFvy509 15 (by decide)).trans ((hFvy27 15 (by decide)).trans (fn rfl (by decide))))
      have hey518 : Fvy509 16 = F 16 := ((hFvy509 16 (by decide)).trans ((hFvy27 16 (by decide)).trans (fn rfl (by decide))))
      have hey519 : Fvy509 17 = F 17 := ((hFvy509 17 (by decide)).trans ((hFvy27 17 (by decide)).trans (fn rfl (by decide))))
      have hey520 : Fvy509 18 = F 18 := ((hFvy509 18 (by decide)).trans ((hFvy27 18 (by decide)).trans (fn rfl (by decide))))
      have hey521 : Fvy509 19 = F 19 := ((hFvy509 19 (by decide)).trans ((hFvy27 19 (by decide)).trans (fn rfl (by decide))))
      have hey522 : Fvy509 20 = F 20 := ((hFvy509 20 (by decide)).trans ((hFvy27 20 (by decide)).trans (fn rfl (by decide))))
      have hey523 : Fvy509 21 = F 21 := ((hFvy509 21 (by decide)).trans ((hFvy27 21 (by decide)).trans (fn rfl (by decide))))
      have hey524 : Fvy509 23 = F 23 := ((hFvy509 23 (by decide)).trans ((hFvy27 23 (by decide)).trans (fn rfl (by decide))))
      have hey525 : Fvy509 25 = F 25 := ((hFvy509 25 (by decide)).trans ((hFvy27 25 (by decide)).trans (fn rfl (by decide))))
      have hey526 : Fvy509 27 = F 27 := ((hFvy509 27 (by decide)).trans ((hFvy27 27 (by decide)).trans (fn rfl (by decide))))
      have hey527 : Fvy509 28 = F 28 := ((hFvy509 28 (by decide)).trans ((hFvy27 28 (by decide)).trans (fn rfl (by decide))))
      have hey528 : Fvy509 29 = F 29 := ((hFvy509 29 (by decide)).trans ((hFvy27 29 (by decide)).trans (fn rfl (by decide))))
      have hKy529 : okF Fvy509 := okF.mv hM.2.1 hey515 hey516 hey517 hey518 hey519 hey520 hey521 hey522 hey523 hey524 hey525 hey526 hey527 hey528
      have hMy530 : okMr cs ad gvy509 i (x + 1) Fvy509 r st op ai fa mu tb tp := okMr.upd hM hcvy509 hKy529 (fun f a => hFy514 f (by omega)) hgy513 (hA.mono (by omega)) (fun j a b => by
          exact Or.inl (by rw [hfvy509 _ (by omega)]; rw [hfvy27 _ (by omega)]; rw [egy25, va_up_ne _ _ (by omega)]))
      have hkpy531 : Fvy509 13 = F 13 := ((hFvy509 13 (by decide)).trans ((hFvy27 13 (by decide)).trans (fn rfl (by decide))))
      have hkpy532 : Fvy509 14 = F 14 := ((hFvy509 14 (by decide)).trans ((hFvy27 14 (by decide)).trans (fn rfl (by decide))))
      have hkpy533 : Fvy509 15 = F 15 := ((hFvy509 15 (by decide)).trans ((hFvy27 15 (by decide)).trans (fn rfl (by decide))))
      have hkpy534 : Fvy509 16 = F 16 := ((hFvy509 16 (by decide)).trans ((hFvy27 16 (by decide)).trans (fn rfl (by decide))))
      have hkpy535 : Fvy509 17 = F 17 := ((hFvy509 17 (by decide)).trans ((hFvy27 17 (by decide)).trans (fn rfl (by decide))))
      have hkpy536 : Fvy509 18 = F 18 := ((hFvy509 18 (by decide)).trans ((hFvy27 18 (by decide)).trans (fn rfl (by decide))))
      have hkpy537 : Fvy509 19 = F 19 := ((hFvy509 19 (by decide)).trans ((hFvy27 19 (by decide)).trans (fn rfl (by decide))))
      have hkpy538 : Fvy509 20 = F 20 := ((hFvy509 20 (by decide)).trans ((hFvy27 20 (by decide)).trans (fn rfl (by decide))))
      have hkpy539 : Fvy509 21 = F 21 := ((hFvy509 21 (by decide)).trans ((hFvy27 21 (by decide)).trans (fn rfl (by decide))))
      have hkpy540 : Fvy509 23 = F 23 := ((hFvy509 23 (by decide)).trans ((hFvy27 23 (by decide)).trans (fn rfl (by decide))))
      have hkpy541 : Fvy509 24 = F 24 := ((hFvy509 24 (by decide)).trans ((hFvy27 24 (by decide)).trans (fn rfl (by decide))))
      have hkpy542 : Fvy509 25 = F 25 := ((hFvy509 25 (by decide)).trans ((hFvy27 25 (by decide)).trans (fn rfl (by decide))))
      have hkpy543 : Fvy509 26 = F 26 := ((hFvy509 26 (by decide)).trans ((hFvy27 26 (by decide)).trans (fn rfl (by decide))))
      have hkpy544 : Fvy509 27 = F 27 := ((hFvy509 27 (by decide)).trans ((hFvy27 27 (by decide)).trans (fn rfl (by decide))))
      have hkpy545 : Fvy509 29 = F 29 := ((hFvy509 29 (by decide)).trans ((hFvy27 29 (by decide)).trans (fn rfl (by decide))))
      exact z_iret C hr hlk dX10_slope_29 (by decide) (by decide) ⟨0, rfl, rfl, rfl, by omega, ⟨_, _, hMy530, ⟨hkpy531, hkpy532, hkpy533, hkpy534, hkpy535, hkpy536, hkpy537, hkpy538, hkpy539, hkpy540, hkpy541⟩, ⟨(hkpy542.trans hp25), (hkpy543.trans hp26), (hkpy544.trans hp27), (hkpy545.trans hp29)⟩, (fun j _ => rfl)⟩, fun j j1 => by rw [hfvy509 _ (by omega)]; rw [hfvy27 _ (by omega)]; rw [egy25, va_up_ne _ _ (by omega)]⟩
  · refine z_if_eq (tgt := 28) C dX10_slope_10 (by decide) (by omega) (fun _ => ?_) (fun h => absurd h (by omega))
    refine z_iconst (z := 0) C dX10_slope_28 rfl ?_
    have hgy546 := up_n egy25 ha1 (ne_o (i := i) (c := 1) (d := 0) rfl)
    have hgy547 := (hfvy27 (i + 1) (ne_o (i := i) (c := 1) (d := 0) rfl)).trans hgy546
    have hFy548 : ∀ f, f ≠ 12 → Fvy27 f = F f := fun f n12 => ((hFvy27 f n12).trans ((uZ_n _ _ n12).trans rfl))
    have hey549 : Fvy27 13 = F 13 := ((hFvy27 13 (by decide)).trans (fn rfl (by decide)))
    have hey550 : Fvy27 14 = F 14 := ((hFvy27 14 (by decide)).trans (fn rfl (by decide)))
    have hey551 : Fvy27 15 = F 15 := ((hFvy27 15 (by decide)).trans (fn rfl (by decide)))
    have hey552 : Fvy27 16 = F 16 := ((hFvy27 16 (by decide)).trans (fn rfl (by decide)))
    have hey553 : Fvy27 17 = F 17 := ((hFvy27 17 (by decide)).trans (fn rfl (by decide)))
    have hey554 : Fvy27 18 = F 18 := ((hFvy27 18 (by decide)).trans (fn rfl (by decide)))
    have hey555 : Fvy27 19 = F 19 := ((hFvy27 19 (by decide)).trans (fn rfl (by decide)))
    have hey556 : Fvy27 20 = F 20 := ((hFvy27 20 (by decide)).trans (fn rfl (by decide)))
    have hey557 : Fvy27 21 = F 21 := ((hFvy27 21 (by decide)).trans (fn rfl (by decide)))
    have hey558 : Fvy27 23 = F 23 := ((hFvy27 23 (by decide)).trans (fn rfl (by decide)))
    have hey559 : Fvy27 25 = F 25 := ((hFvy27 25 (by decide)).trans (fn rfl (by decide)))
    have hey560 : Fvy27 27 = F 27 := ((hFvy27 27 (by decide)).trans (fn rfl (by decide)))
    have hey561 : Fvy27 28 = F 28 := ((hFvy27 28 (by decide)).trans (fn rfl (by decide)))
    have hey562 : Fvy27 29 = F 29 := ((hFvy27 29 (by decide)).trans (fn rfl (by decide)))
    have hKy563 : okF Fvy27 := okF.mv hM.2.1 hey549 hey550 hey551 hey552 hey553 hey554 hey555 hey556 hey557 hey558 hey559 hey560 hey561 hey562
    have hMy564 : okMr cs ad gvy27 i (x + 1) Fvy27 r st op ai fa mu tb tp := okMr.upd hM hcvy27 hKy563 (fun f a => hFy548 f (by omega)) hgy547 (hA.mono (by omega)) (fun j a b => by
        exact Or.inl (by rw [hfvy27 _ (by omega)]; rw [egy25, va_up_ne _ _ (by omega)]))
    have hkpy565 : Fvy27 13 = F 13 := ((hFvy27 13 (by decide)).trans (fn rfl (by decide)))
    have hkpy566 : Fvy27 14 = F 14 := ((hFvy27 14 (by decide)).trans (fn rfl (by decide)))
    have hkpy567 : Fvy27 15 = F 15 := ((hFvy27 15 (by decide)).trans (fn rfl (by decide)))
    have hkpy568 : Fvy27 16 = F 16 := ((hFvy27 16 (by decide)).trans (fn rfl (by decide)))
    have hkpy569 : Fvy27 17 = F 17 := ((hFvy27 17 (by decide)).trans (fn rfl (by decide)))
    have hkpy570 : Fvy27 18 = F 18 := ((hFvy27 18 (by decide)).trans (fn rfl (by decide)))
    have hkpy571 : Fvy27 19 = F 19 := ((hFvy27 19 (by decide)).trans (fn rfl (by decide)))
    have hkpy572 : Fvy27 20 = F 20 := ((hFvy27 20 (by decide)).trans (fn rfl (by decide)))
    have hkpy573 : Fvy27 21 = F 21 := ((hFvy27 21 (by decide)).trans (fn rfl (by decide)))
    have hkpy574 : Fvy27 23 = F 23 := ((hFvy27 23 (by decide)).trans (fn rfl (by decide)))
    have hkpy575 : Fvy27 24 = F 24 := ((hFvy27 24 (by decide)).trans (fn rfl (by decide)))
    have hkpy576 : Fvy27 25 = F 25 := ((hFvy27 25 (by decide)).trans (fn rfl (by decide)))
    have hkpy577 : Fvy27 26 = F 26 := ((hFvy27 26 (by decide)).trans (fn rfl (by decide)))
    have hkpy578 : Fvy27 27 = F 27 := ((hFvy27 27 (by decide)).trans (fn rfl (by decide)))
    have hkpy579 : Fvy27 29 = F 29 := ((hFvy27 29 (by decide)).trans (fn rfl (by decide)))
    exact z_iret C hr hlk dX10_slope_29 (by decide) (by decide) ⟨0, rfl, rfl, rfl, by omega, ⟨_, _, hMy564, ⟨hkpy565, hkpy566, hkpy567, hkpy568, hkpy569, hkpy570, hkpy571, hkpy572, hkpy573, hkpy574, hkpy575⟩, ⟨(hkpy576.trans hp25), (hkpy577.trans hp26), (hkpy578.trans hp27), (hkpy579.trans hp29)⟩, (fun j _ => rfl)⟩, fun j j1 => by rw [hfvy27 _ (by omega)]; rw [egy25, va_up_ne _ _ (by omega)]⟩

set_option maxRecDepth 100000 in
set_option maxHeartbeats 4000000 in
theorem c_X10_slope_b (l : Launch) (D : va_G) (A : Nat → Prop) (cs : Nat → ClassId) (tt : Nat) (N : Nat) (ad : Nat → Nat) (g : Nat → va_E) (i : Nat) (hN : i + 30 ≤ N) (x : Int) (hx : 0 ≤ x ∧ x ≤ 512) (F r : Nat → Int) {st op ai fa mu tb tp : Nat → Int} (hM : okMr cs ad g i x F r st op ai fa mu tb tp) (hPl : F 25 = 0 ∧ F 26 = -1 ∧ F 27 = -1 ∧ F 29 = 0) (z : Int) (hz : -2147483648 ≤ z ∧ z ≤ 2147483647) (hzo : z < 0 ∨ 3 < z) (z1 : Int) (hz1 : -2147483648 ≤ z1 ∧ z1 ≤ 2147483647) : zM l yX10_slope cX10_slope 3 (some .int) ({ frames := 11, cells := 0, slots := 0, locals := 660 } : Room) D A cs tt N ad g [.ref (ad i), .int (zI (z)), .int (zI (z1))] (rI0 N ad fun q g' => (-2147483648 ≤ q ∧ q ≤ 2147483647) ∧ (∃ F' r' : Nat → Int, okMr cs ad g' i (x + 1) F' r' st op ai fa mu tb tp ∧ (F' 13 = F 13 ∧ F' 14 = F 14 ∧ F' 15 = F 15 ∧ F' 16 = F 16 ∧ F' 17 = F 17 ∧ F' 18 = F 18 ∧ F' 19 = F 19 ∧ F' 20 = F 20 ∧ F' 21 = F 21 ∧ F' 23 = F 23 ∧ F' 24 = F 24) ∧ (F' 25 = 0 ∧ F' 26 = -1 ∧ F' 27 = -1 ∧ F' 29 = 0) ∧ (∀ j, j < 350 ∨ 700 ≤ j → r' j = r j)) ∧ ∀ j, j < i ∨ i + 30 ≤ j ∨ (i + 8 ≤ j ∧ j ≤ i + 12) → g' j = g j) := by
  obtain ⟨hg, ⟨⟨e13, e14, e25, e27, e29⟩, k15, k16, k17, k18, k19, k20, k23, k21⟩, hRD, hTx, hA, ns, nh, nd, rf, pi, te, ki, li, ok1, ok2, fo, dd, dps, ⟨ha1, ha2, ha3, ha4, ha5, ha6, ha7, ha8, ha9, ha10, ha11, ha12, ha13, ha14, ha15, ha24, ha25, ha26, ha27, ha28, ha29⟩, hEv, hPt, hns, htp⟩ := id hM
  obtain ⟨-, hop, hai, hfa, hT, hT1⟩ := id hEv
  have hay1 : zAt ad (i) (ad i) := rfl
  have hay2 : zAt ad (i + 1) (ad (i + 1)) := rfl
  have hay3 : zAt ad (i + 2) (ad (i + 2)) := rfl
  have hay4 : zAt ad (i + 3) (ad (i + 3)) := rfl
  have hay5 : zAt ad (i + 4) (ad (i + 4)) := rfl
  have hay6 : zAt ad (i + 5) (ad (i + 5)) := rfl
  have hay7 : zAt ad (i + 6) (ad (i + 6)) := rfl
  have hay8 : zAt ad (i + 7) (ad (i + 7)) := rfl
  have hay9 : zAt ad (i + 8) (ad (i + 8)) := rfl
  have hay10 : zAt ad (i + 9) (ad (i + 9)) := rfl
  have hay11 : zAt ad (i + 10) (ad (i + 10)) := rfl
  have hay12 : zAt ad (i + 11) (ad (i + 11)) := rfl
  have hay13 : zAt ad (i + 12) (ad (i + 12)) := rfl
  have hay14 : zAt ad (i + 13) (ad (i + 13)) := rfl
  have hay15 : zAt ad (i + 14) (ad (i + 14)) := rfl
  have hay16 : zAt ad (i + 15) (ad (i + 15)) := rfl
  have hay17 : zAt ad (i + 24) (ad (i + 24)) := rfl
  have hay18 : zAt ad (i + 25) (ad (i + 25)) := rfl
  have hay19 : zAt ad (i + 26) (ad (i + 26)) := rfl
  have hay20 : zAt ad (i + 27) (ad (i + 27)) := rfl
  have hay21 : zAt ad (i + 28) (ad (i + 28)) := rfl
  have hay22 : zAt ad (i + 29) (ad (i + 29)) := rfl
  obtain ⟨⟨hsyy23, htyy23, hnyy23, hpyy23⟩, hlyy23⟩ := okA.at0 hA
  simp only [Nat.zero_add] at hsyy23 hnyy23 hpyy23
  have hmn : ∀ s, s < 4 → 0 ≤ r (6 + 86 * s) ∧ r (6 + 86 * s) ≤ 12 := fun s hs => (hsyy23 s hs).1
  have h5 : 0 ≤ r 5 ∧ r 5 ≤ 6 := hpyy23
  obtain ⟨hp25, hp26, hp27, hp29⟩ := id hPl
  refine z_of (by decide) (Nat.le_of_ble_eq_true rfl) ?_
  intro pZ eZ sZ mZ below meth cZ C hr hlk hnm
  refine z_lv (lv' := [(0, .ref (ad i)), (1, .int (zI (z))), (2, .int (zI (z1)))]) [0, 1, 2] rfl ?_
  refine z_aload_n C 0 dX10_slope_0 rfl ?_
  refine z_iconst (z := 0) C dX10_slope_1 rfl ?_
  refine z_put (fs' := mF ad (i) (uZ F 12 (0))) C (lt_A0 hN rfl) hay1 hg tyX10 tyX10_ok nmX10 rfl inA_X10 12 (by decide) q_1471 rfl rfl rfl rfl (Nat.le_of_ble_eq_true rfl) rfl dX10_slope_2 (fun gy24 egy25 => ?_)
  have hgy26 := up_s egy25
  refine z_aload_n C 0 dX10_slope_5 rfl ?_
  refine z_iload_n C 1 dX10_slope_6 rfl ?_
  have h13vy27 : (uZ F 12 (0)) 13 = F 13 := (fn rfl (by decide))
  have hey28 : (uZ F 12 (0)) 12 = 0 := (uZ_s _ _ _)
  refine z_cV (As := [.int (zI (z))]) (rest := []) (ci := 12) C (c_X10_isSlope l D A cs tt N ad _ i hN _ hgy26 (by omega) (by omega) (z) (by omega)) (lt_A0 hN rfl) hay1 hgy26 rfl rfl mv_yX10_isSlope q_1803 hd_yX10_isSlope (by decide) (Nat.le_of_ble_eq_true rfl) (by decide) dX10_slope_7 rfl (kI0 fun vy27 gvy27 hvy27 => ?_)
  rw [h13vy27] at hvy27
  obtain ⟨hrvy27, ⟨Fvy27, hcvy27, htvy27, hFvy27⟩, hfvy27⟩ := hvy27
  obtain rfl : vy27 = 0 := by omega
  refine z_if_eq (tgt := 28) C dX10_slope_10 (by decide) (by omega) (fun _ => ?_) (fun h => absurd h (by omega))
  refine z_iconst (z := 0) C dX10_slope_28 rfl ?_
  have hgy29 := up_n egy25 ha1 (ne_o (i := i) (c := 1) (d := 0) rfl)
  have hgy30 := (hfvy27 (i + 1) (ne_o (i := i) (c := 1) (d := 0) rfl)).trans hgy29
  have hFy31 : ∀ f, f ≠ 12 → Fvy27 f = F f := fun f n12 => ((hFvy27 f n12).trans ((uZ_n _ _ n12).trans rfl))
  have hey32 : Fvy27 13 = F 13 := ((hFvy27 13 (by decide)).trans (fn rfl (by decide)))
  have hey33 : Fvy27 14 = F 14 := ((hFvy27 14 (by decide)).trans (fn rfl (by decide)))
  have hey34 : Fvy27 15 = F 15 := ((hFvy27 15 (by decide)).trans (fn rfl (by decide)))
  have hey35 : Fvy27 16 = F 16 := ((hFvy27 16 (by decide)).trans (fn rfl (by decide)))
  have hey36 : Fvy27 17 = F 17 := ((hFvy27 17 (by decide)).trans (fn rfl (by decide)))
  have hey37 : Fvy27 18 = F 18 := ((hFvy27 18 (by decide)).trans (fn rfl (by decide)))
  have hey38 : Fvy27 19 = F 19 := ((hFvy27 19 (by decide)).trans (fn rfl (by decide)))
  have hey39 : Fvy27 20 = F 20 := ((hFvy27 20 (by decide)).trans (fn rfl (by decide)))
  have hey40 : Fvy27 21 = F 21 := ((hFvy27 21 (by decide)).trans (fn rfl (by decide)))
  have hey41 : Fvy27 23 = F 23 := ((hFvy27 23 (by decide)).trans (fn rfl (by decide)))
  have hey42 : Fvy27 25 = F 25 := ((hFvy27 25 (by decide)).trans (fn rfl (by decide)))
  have hey43 : Fvy27 27 = F 27 := ((hFvy27 27 (by decide)).trans (fn rfl (by decide)))
  have hey44 : Fvy27 28 = F 28 := ((hFvy27 28 (by decide)).trans (fn rfl (by decide)))
  have hey45 : Fvy27 29 = F 29 := ((hFvy27 29 (by decide)).trans (fn rfl (by decide)))
  have hKy46 : okF Fvy27 := okF.mv hM.2.1 hey32 hey33 hey34 hey35 hey36 hey37 hey38 hey39 hey40 hey41 hey42 hey43 hey44 hey45
  have hMy47 : okMr cs ad gvy27 i (x + 1) Fvy27 r st op ai fa mu tb tp := okMr.upd hM hcvy27 hKy46 (fun f a => hFy31 f (by omega)) hgy30 (hA.mono (by omega)) (fun j a b => by
      exact Or.inl (by rw [hfvy27 _ (by omega)]; rw [egy25, va_up_ne _ _ (by omega)]))
  have hkpy48 : Fvy27 13 = F 13 := ((hFvy27 13 (by decide)).trans (fn rfl (by decide)))
  have hkpy49 : Fvy27 14 = F 14 := ((hFvy27 14 (by decide)).trans (fn rfl (by decide)))
  have hkpy50 : Fvy27 15 = F 15 := ((hFvy27 15 (by decide)).trans (fn rfl (by decide)))
  have hkpy51 : Fvy27 16 = F 16 := ((hFvy27 16 (by decide)).trans (fn rfl (by decide)))
  have hkpy52 : Fvy27 17 = F 17 := ((hFvy27 17 (by decide)).trans (fn rfl (by decide)))
  have hkpy53 : Fvy27 18 = F 18 := ((hFvy27 18 (by decide)).trans (fn rfl (by decide)))
  have hkpy54 : Fvy27 19 = F 19 := ((hFvy27 19 (by decide)).trans (fn rfl (by decide)))
  have hkpy55 : Fvy27 20 = F 20 := ((hFvy27 20 (by decide)).trans (fn rfl (by decide)))
  have hkpy56 : Fvy27 21 = F 21 := ((hFvy27 21 (by decide)).trans (fn rfl (by decide)))
  have hkpy57 : Fvy27 23 = F 23 := ((hFvy27 23 (by decide)).trans (fn rfl (by decide)))
  have hkpy58 : Fvy27 24 = F 24 := ((hFvy27 24 (by decide)).trans (fn rfl (by decide)))
  have hkpy59 : Fvy27 25 = F 25 := ((hFvy27 25 (by decide)).trans (fn rfl (by decide)))
  have hkpy60 : Fvy27 26 = F 26 := ((hFvy27 26 (by decide)).trans (fn rfl (by decide)))
  have hkpy61 : Fvy27 27 = F 27 := ((hFvy27 27 (by decide)).trans (fn rfl (by decide)))
  have hkpy62 : Fvy27 29 = F 29 := ((hFvy27 29 (by decide)).trans (fn rfl (by decide)))
  exact z_iret C hr hlk dX10_slope_29 (by decide) (by decide) ⟨0, rfl, rfl, rfl, by omega, ⟨_, _, hMy47, ⟨hkpy48, hkpy49, hkpy50, hkpy51, hkpy52, hkpy53, hkpy54, hkpy55, hkpy56, hkpy57, hkpy58⟩, ⟨(hkpy59.trans hp25), (hkpy60.trans hp26), (hkpy61.trans hp27), (hkpy62.trans hp29)⟩, (fun j _ => rfl)⟩, fun j j1 => by rw [hfvy27 _ (by omega)]; rw [egy25, va_up_ne _ _ (by omega)]⟩

set_option maxRecDepth 100000 in
set_option maxHeartbeats 4000000 in
theorem c_X10_slope (l : Launch) (D : va_G) (A : Nat → Prop) (cs : Nat → ClassId) (tt : Nat) (N : Nat) (ad : Nat → Nat) (g : Nat → va_E) (i : Nat) (hN : i + 30 ≤ N) (x : Int) (hx : 0 ≤ x ∧ x ≤ 512) (F r : Nat → Int) {st op ai fa mu tb tp : Nat → Int} (hM : okMr cs ad g i x F r st op ai fa mu tb tp) (hPl : F 25 = 0 ∧ F 26 = -1 ∧ F 27 = -1 ∧ F 29 = 0) (z : Int) (hz : -2147483648 ≤ z ∧ z ≤ 2147483647) (z1 : Int) (hz1 : -2147483648 ≤ z1 ∧ z1 ≤ 2147483647) : zM l yX10_slope cX10_slope 3 (some .int) ({ frames := 11, cells := 0, slots := 0, locals := 660 } : Room) D A cs tt N ad g [.ref (ad i), .int (zI (z)), .int (zI (z1))] (rI0 N ad fun q g' => (-2147483648 ≤ q ∧ q ≤ 2147483647) ∧ (∃ F' r' : Nat → Int, okMr cs ad g' i (x + 1) F' r' st op ai fa mu tb tp ∧ (F' 13 = F 13 ∧ F' 14 = F 14 ∧ F' 15 = F 15 ∧ F' 16 = F 16 ∧ F' 17 = F 17 ∧ F' 18 = F 18 ∧ F' 19 = F 19 ∧ F' 20 = F 20 ∧ F' 21 = F 21 ∧ F' 23 = F 23 ∧ F' 24 = F 24) ∧ (F' 25 = 0 ∧ F' 26 = -1 ∧ F' 27 = -1 ∧ F' 29 = 0) ∧ (∀ j, j < 350 ∨ 700 ≤ j → r' j = r j)) ∧ ∀ j, j < i ∨ i + 30 ≤ j ∨ (i + 8 ≤ j ∧ j ≤ i + 12) → g' j = g j) := by
  by_cases h9 : 0 ≤ z ∧ z ≤ 3
  · obtain ⟨n, rfl⟩ : ∃ n : Nat, z = (n : Int) := ⟨z.toNat, by omega⟩
    exact c_X10_slope_a l D A cs tt N ad g i hN x hx F r hM hPl n (by omega) z1 hz1
  · exact c_X10_slope_b l D A cs tt N ad g i hN x hx F r hM hPl z hz (by omega) z1 hz1

set_option maxRecDepth 100000 in
set_option maxHeartbeats 4000000 in
theorem c_X10_layer_a (l : Launch) (D : va_G) (A : Nat → Prop) (cs : Nat → ClassId) (tt : Nat) (N : Nat) (ad : Nat → Nat) (g : Nat → va_E) (i : Nat) (hN : i + 30 ≤ N) (x : Int) (hx : 0 ≤ x ∧ x ≤ 512) (F r : Nat → Int) {st op ai fa mu tb tp : Nat → Int} (hM : okMr cs ad g i x F r st op ai fa mu tb tp) (hPl : F 25 = 0 ∧ F 26 = -1 ∧ F 27 = -1 ∧ F 29 = 0) (n : Nat) (hn4 : n < 4) (z1 : Int) (hz1 : -2147483648 ≤ z1 ∧ z1 ≤ 2147483647) (z2 : Int) (hz2 : -2147483648 ≤ z2 ∧ z2 ≤ 2147483647) : zM l yX10_layer cX10_layer 4 (some .int) ({ frames := 7, cells := 0, slots := 0, locals := 420 } : Room) D A cs tt N ad g [.ref (ad i), .int (zI ((n : Int))), .int (zI (z1)), .int (zI (z2))] (rI0 N ad fun q g' => (-2147483648 ≤ q ∧ q ≤ 2147483647) ∧ (∃ F' r' : Nat → Int, okMr cs ad g' i (x + 1) F' r' st op ai fa mu tb tp ∧ (F' 13 = F 13 ∧ F' 14 = F 14 ∧ F' 15 = F 15 ∧ F' 16 = F 16 ∧ F' 17 = F 17 ∧ F' 18 = F 18 ∧ F' 19 = F 19 ∧ F' 20 = F 20 ∧ F' 21 = F 21 ∧ F' 23 = F 23 ∧ F' 24 = F 24) ∧ (F' 25 = 0 ∧ F' 26 = -1 ∧ F' 27 = -1 ∧ F' 29 = 0) ∧ (∀ j, j < 350 ∨ 700 ≤ j → r' j = r j)) ∧ ∀ j, j < i ∨ i + 30 ≤ j ∨ (i + 8 ≤ j ∧ j ≤ i + 12) → g' j = g j) := by
  obtain ⟨hg, ⟨⟨e13, e14, e25, e27, e29⟩, k15, k16, k17, k18, k19, k20, k23, k21⟩, hRD, hTx, hA, ns, nh, nd, rf, pi, te, ki, li, ok1, ok2, fo, dd, dps, ⟨ha1, ha2, ha3, ha4, ha5, ha6, ha7, ha8, ha9, ha10, ha11, ha12, ha13, ha14, ha15, ha24, ha25, ha26, ha27, ha28, ha29⟩, hEv, hPt, hns, htp⟩ := id hM
  obtain ⟨-, hop, hai, hfa, hT, hT1⟩ := id hEv
  have hay1 : zAt ad (i) (ad i) := rfl
  have hay2 : zAt ad (i + 1) (ad (i + 1)) := rfl
  have hay3 : zAt ad (i + 2) (ad (i + 2)) := rfl
  have hay4 : zAt ad (i + 3) (ad (i + 3)) := rfl
  have hay5 : zAt ad (i + 4) (ad (i + 4)) := rfl
  have hay6 : zAt ad (i + 5) (ad (i + 5)) := rfl
  have hay7 : zAt ad (i + 6) (ad (i + 6)) := rfl
  have hay8 : zAt ad (i + 7) (ad (i + 7)) := rfl
  have hay9 : zAt ad (i + 8) (ad (i + 8)) := rfl
  have hay10 : zAt ad (i + 9) (ad (i + 9)) := rfl
  have hay11 : zAt ad (i + 10) (ad (i + 10)) := rfl
  have hay12 : zAt ad (i + 11) (ad (i + 11)) := rfl
  have hay13 : zAt ad (i + 12) (ad (i + 12)) := rfl
  have hay14 : zAt ad (i + 13) (ad (i + 13)) := rfl
  have hay15 : zAt ad (i + 14) (ad (i + 14)) := rfl
  have hay16 : zAt ad (i + 15) (ad (i + 15)) := rfl
  have hay17 : zAt ad (i + 24) (ad (i + 24)) := rfl
  have hay18 : zAt ad (i + 25) (ad (i + 25)) := rfl
  have hay19 : zAt ad (i + 26) (ad (i + 26)) := rfl
  have hay20 : zAt ad (i + 27) (ad (i + 27)) := rfl
  have hay21 : zAt ad (i + 28) (ad (i + 28)) := rfl
  have hay22 : zAt ad (i + 29) (ad (i + 29)) := rfl
  obtain ⟨⟨hsyy23, htyy23, hnyy23, hpyy23⟩, hlyy23⟩ := okA.at0 hA
  simp only [Nat.zero_add] at hsyy23 hnyy23 hpyy23
  have hmn : ∀ s, s < 4 → 0 ≤ r (6 + 86 * s) ∧ r (6 + 86 * s) ≤ 12 := fun s hs => (hsyy23 s hs).1
  have h5 : 0 ≤ r 5 ∧ r 5 ≤ 6 := hpyy23
  obtain ⟨hp25, hp26, hp27, hp29⟩ := id hPl
  refine z_of (by decide) (Nat.le_of_ble_eq_true rfl) ?_
  intro pZ eZ sZ mZ below meth cZ C hr hlk hnm
  refine z_lv (lv' := [(0, .ref (ad i)), (1, .int (zI ((n : Int)))), (2, .int (zI (z1))), (3, .int (zI (z2)))]) [0, 1, 2, 3] rfl ?_
  refine z_aload_n C 0 dX10_layer_0 rfl ?_
  refine z_iconst (z := 0) C dX10_layer_1 rfl ?_
  refine z_put (fs' := mF ad (i) (uZ F 12 (0))) C (lt_A0 hN rfl) hay1 hg tyX10 tyX10_ok nmX10 rfl inA_X10 12 (by decide) q_1471 rfl rfl rfl rfl (Nat.le_of_ble_eq_true rfl) rfl dX10_layer_2 (fun gy24 egy25 => ?_)
  have hgy26 := up_s egy25
  refine z_aload_n C 0 dX10_layer_5 rfl ?_
  refine z_iload_n C 1 dX10_layer_6 rfl ?_
  refine z_iload_n C 2 dX10_layer_7 rfl ?_
  have hgy27 := up_n egy25 ha1 (ne_o (i := i) (c := 1) (d := 0) rfl)
  have h13vy28 : (uZ F 12 (0)) 13 = F 13 := (fn rfl (by decide))
  have hey29 : (uZ F 12 (0)) 12 = 0 := (uZ_s _ _ _)
  obtain ⟨py30, hpy30⟩ : ∃ p9 : Nat, 0 + 6 + 86 * n = p9 := ⟨_, rfl⟩
  refine z_cV (As := [.int (zI ((n : Int))), .int (zI (z1))]) (rest := []) (ci := 12) C (c_X10_isLayer_a l D A cs tt N ad _ i hN _ hgy26 _ hgy27 hmn (by omega) (by omega) n py30 (by omega) (by omega) (z1) (by omega)) (lt_A0 hN rfl) hay1 hgy26 rfl rfl mv_yX10_isLayer q_1819 hd_yX10_isLayer (by decide) (Nat.le_of_ble_eq_true rfl) (by decide) dX10_layer_8 rfl (kI0 fun vy28 gvy28 hvy28 => ?_)
  rw [h13vy28] at hvy28
  obtain ⟨hrvy28, ⟨Fvy28, hcvy28, htvy28, hFvy28⟩, hfvy28⟩ := hvy28
  rcases (show vy28 = 1 ∨ vy28 = 0 by omega) with rfl | rfl
  · have hxvy28 := hrvy28.2 rfl
    have hmpy30 := hmn n (by omega)
    rw [show 6 + 86 * n = py30 by omega] at hmpy30
    refine z_if_eq (tgt := 29) C dX10_layer_11 (by decide) (by omega) (fun h => absurd h (by omega)) (fun _ => ?_)
    refine z_aload_n C 0 dX10_layer_14 rfl ?_
    refine z_iload_n C 3 dX10_layer_15 rfl ?_
    refine z_iconst (z := 0) C dX10_layer_16 rfl ?_
    refine z_bipush (z := 11) C dX10_layer_17 (by decide) ?_
    refine z_cS (As := [.int (zI (z2)), .int (zI (0)), .int (zI (11))]) (rest := [.ref (ad i)]) C (c_X10_within l D A cs tt N ad _ (z2) (by omega) (0) (by omega) (11) (by omega)) ms_yX10_within q_1686 hd_yX10_within (by decide) (Nat.le_of_ble_eq_true rfl) (by decide) dX10_layer_19 rfl (kI0 fun vy31 gvy31 hvy31 => ?_)
    obtain ⟨hvy31, rfl⟩ := hvy31
    rcases hvy31 with ⟨rfl, hxvy31⟩ | ⟨rfl, hxvy31⟩
    · refine z_iconst (z := 1) C dX10_layer_22 rfl ?_
      have hey33 : Fvy28 12 = Fvy28 12 := rfl
      refine z_cV (As := [.int (zI (1)), .int (zI (1))]) (rest := []) (ci := 12) C (c_X10_right l D A cs tt N ad _ i hN _ hcvy28 (by omega) (1) (by omega) (1) (by omega)) (lt_A0 hN rfl) hay1 hcvy28 rfl rfl mv_yX10_right q_1648 hd_yX10_right (by decide) (Nat.le_of_ble_eq_true rfl) (by decide) dX10_layer_23 rfl (kI0 fun vy32 gvy32 hvy32 => ?_)
      obtain ⟨hrvy32, ⟨Fvy32, hcvy32, htvy32, hFvy32⟩, hfvy32⟩ := hvy32
      rcases (show vy32 = 1 ∨ vy32 = 0 by omega) with rfl | rfl
      · refine z_if_ne (tgt := 31) C dX10_layer_26 (by decide) (by omega) (fun _ => ?_) (fun h => absurd h (by omega))
        refine z_iload_n C 3 dX10_layer_31 rfl ?_
        by_cases hsy34 : z2 ≠ 7 ∧ z2 ≠ 8 ∧ z2 ≠ 9 ∧ z2 ≠ 10 ∧ z2 ≠ 11
        · refine z_tout (tgt := 127) C dX10_layer_32 (by omega) (by omega) (by decide) ?_
          refine z_aload_n C 0 dX10_layer_127 rfl ?_
          refine z_iconst (z := 0) C dX10_layer_128 rfl ?_
          refine z_iload_n C 1 dX10_layer_129 rfl ?_
          refine z_iload_n C 2 dX10_layer_130 rfl ?_
          refine z_iload_n C 3 dX10_layer_131 rfl ?_
          obtain ⟨ky35, hky35⟩ : ∃ k9 : Nat, (z1) = (k9 : Int) := ⟨((z1) : Int).toNat, by omega⟩
          obtain ⟨qy36, hqy36⟩ : ∃ q9 : Nat, py30 + 2 + 7 * ky35 = q9 := ⟨_, rfl⟩
          have hgy37 := (hfvy28 (i + 1) (ne_o (i := i) (c := 1) (d := 0) rfl)).trans hgy27
          have hgy38 := (hfvy32 (i + 1) (ne_o (i := i) (c := 1) (d := 0) rfl)).trans hgy37
          refine z_cV (As := [.int (zI (0)), .int (zI ((n : Int))), .int (zI (z1)), .int (zI (z2))]) (rest := []) (ci := 12) C (c_X10_of l D A cs tt N ad _ i hN _ hcvy32 _ hgy38 0 n py30 hpy30 (by omega) (by omega) (z1) (z2) (qy36 + (z2).toNat) (by omega) (by omega) (by omega)) (lt_A0 hN rfl) hay1 hcvy32 rfl rfl mv_yX10_of q_1749 hd_yX10_of (by decide) (Nat.le_of_ble_eq_true rfl) (by decide) dX10_layer_132 rfl (kI0 fun vy39 gvy39 hvy39 => ?_)
          obtain ⟨rfl, rfl⟩ := hvy39
          obtain ⟨xy40, exy41, hxy42⟩ := zI_of (zI (r (qy36 + (z2).toNat)))
          rw [exy41]
          have hFy43 : ∀ f, f ≠ 12 → Fvy32 f = F f := fun f n12 => ((hFvy32 f n12).trans ((hFvy28 f n12).trans ((uZ_n _ _ n12).trans rfl)))
          have hey44 : Fvy32 13 = F 13 := ((hFvy32 13 (by decide)).trans ((hFvy28 13 (by decide)).trans (fn rfl (by decide))))
          have hey45 : Fvy32 14 = F 14 := ((hFvy32 14 (by decide)).trans ((hFvy28 14 (by decide)).trans (fn rfl (by decide))))
          have hey46 : Fvy32 15 = F 15 := ((hFvy32 15 (by decide)).trans ((hFvy28 15 (by decide)).trans (fn rfl (by decide))))
          have hey47 : Fvy32 16 = F 16 := ((hFvy32 16 (by decide)).trans ((hFvy28 16 (by decide)).trans (fn rfl (by decide))))
          have hey48 : Fvy32 17 = F 17 := ((hFvy32 17 (by decide)).trans ((hFvy28 17 (by decide)).trans (fn rfl (by decide))))
          have hey49 : Fvy32 18 = F 18 := ((hFvy32 18 (by decide)).trans ((hFvy28 18 (by decide)).trans (fn rfl (by decide))))
          have hey50 : Fvy32 19 = F 19 := ((hFvy32 19 (by decide)).trans ((hFvy28 19 (by decide)).trans (fn rfl (by decide))))
          have hey51 : Fvy32 20 = F 20 := ((hFvy32 20 (by decide)).trans ((hFvy28 20 (by decide)).trans (fn rfl (by decide))))
          have hey52 : Fvy32 21 = F 21 := ((hFvy32 21 (by decide)).trans ((hFvy28 21 (by decide)).trans (fn rfl (by decide))))
          have hey53 : Fvy32 23 = F 23 := ((hFvy32 23 (by decide)).trans ((hFvy28 23 (by decide)).trans (fn rfl (by decide))))
          have hey54 : Fvy32 25 = F 25 := ((hFvy32 25 (by decide)).trans ((hFvy28 25 (by decide)).trans (fn rfl (by decide))))
          have hey55 : Fvy32 27 = F 27 := ((hFvy32 27 (by decide)).trans ((hFvy28 27 (by decide)).trans (fn rfl (by decide))))
          have hey56 : Fvy32 28 = F 28 := ((hFvy32 28 (by decide)).trans ((hFvy28 28 (by decide)).trans (fn rfl (by decide))))
          have hey57 : Fvy32 29 = F 29 := ((hFvy32 29 (by decide)).trans ((hFvy28 29 (by decide)).trans (fn rfl (by decide))))
          have hKy58 : okF Fvy32 := okF.mv hM.2.1 hey44 hey45 hey46 hey47 hey48 hey49 hey50 hey51 hey52 hey53 hey54 hey55 hey56 hey57
          have hMy59 : okMr cs ad gvy32 i (x + 1) Fvy32 r st op ai fa mu tb tp := okMr.upd hM hcvy32 hKy58 (fun f a => hFy43 f (by omega)) hgy38 (hA.mono (by omega)) (fun j a b => by
              exact Or.inl (by rw [hfvy32 _ (by omega)]; rw [hfvy28 _ (by omega)]; rw [egy25, va_up_ne _ _ (by omega)]))
          have hkpy60 : Fvy32 13 = F 13 := ((hFvy32 13 (by decide)).trans ((hFvy28 13 (by decide)).trans (fn rfl (by decide))))
          have hkpy61 : Fvy32 14 = F 14 := ((hFvy32 14 (by decide)).trans ((hFvy28 14 (by decide)).trans (fn rfl (by decide))))
          have hkpy62 : Fvy32 15 = F 15 := ((hFvy32 15 (by decide)).trans ((hFvy28 15 (by decide)).trans (fn rfl (by decide))))
          have hkpy63 : Fvy32 16 = F 16 := ((hFvy32 16 (by decide)).trans ((hFvy28 16 (by decide)).trans (fn rfl (by decide))))
          have hkpy64 : Fvy32 17 = F 17 := ((hFvy32 17 (by decide)).trans ((hFvy28 17 (by decide)).trans (fn rfl (by decide))))
          have hkpy65 : Fvy32 18 = F 18 := ((hFvy32 18 (by decide)).trans ((hFvy28 18 (by decide)).trans (fn rfl (by decide))))
          have hkpy66 : Fvy32 19 = F 19 := ((hFvy32 19 (by decide)).trans ((hFvy28 19 (by decide)).trans (fn rfl (by decide))))
          have hkpy67 : Fvy32 20 = F 20 := ((hFvy32 20 (by decide)).trans ((hFvy28 20 (by decide)).trans (fn rfl (by decide))))
          have hkpy68 : Fvy32 21 = F 21 := ((hFvy32 21 (by decide)).trans ((hFvy28 21 (by decide)).trans (fn rfl (by decide))))
          have hkpy69 : Fvy32 23 = F 23 := ((hFvy32 23 (by decide)).trans ((hFvy28 23 (by decide)).trans (fn rfl (by decide))))
          have hkpy70 : Fvy32 24 = F 24 := ((hFvy32 24 (by decide)).trans ((hFvy28 24 (by decide)).trans (fn rfl (by decide))))
          have hkpy71 : Fvy32 25 = F 25 := ((hFvy32 25 (by decide)).trans ((hFvy28 25 (by decide)).trans (fn rfl (by decide))))
          have hkpy72 : Fvy32 26 = F 26 := ((hFvy32 26 (by decide)).trans ((hFvy28 26 (by decide)).trans (fn rfl (by decide))))
          have hkpy73 : Fvy32 27 = F 27 := ((hFvy32 27 (by decide)).trans ((hFvy28 27 (by decide)).trans (fn rfl (by decide))))
          have hkpy74 : Fvy32 29 = F 29 := ((hFvy32 29 (by decide)).trans ((hFvy28 29 (by decide)).trans (fn rfl (by decide))))
          exact z_iret C hr hlk dX10_layer_135 (by decide) (by decide) ⟨xy40, rfl, rfl, rfl, by omega, ⟨_, _, hMy59, ⟨hkpy60, hkpy61, hkpy62, hkpy63, hkpy64, hkpy65, hkpy66, hkpy67, hkpy68, hkpy69, hkpy70⟩, ⟨(hkpy71.trans hp25), (hkpy72.trans hp26), (hkpy73.trans hp27), (hkpy74.trans hp29)⟩, (fun j _ => rfl)⟩, fun j j1 => by rw [hfvy32 _ (by omega)]; rw [hfvy28 _ (by omega)]; rw [egy25, va_up_ne _ _ (by omega)]⟩
        · rcases (show z2 = 7 ∨ z2 = 8 ∨ z2 = 9 ∨ z2 = 10 ∨ z2 = 11 by omega) with rfl | rfl | rfl | rfl | rfl
          · refine z_tin (off := 36) (tgt := 68) C dX10_layer_32 (by omega) (by omega) (by omega) rfl (by decide) ?_
            refine z_aload_n C 0 dX10_layer_68 rfl ?_
            refine z_iconst (z := 0) C dX10_layer_69 rfl ?_
            refine z_iload_n C 1 dX10_layer_70 rfl ?_
            refine z_iload_n C 2 dX10_layer_71 rfl ?_
            have hSy75 := ((okA.at0 hA).1.1 n (by omega)).of (p2 := py30) (by omega)
            obtain ⟨b1hSy75, b2hSy75, b3hSy75, b4hSy75⟩ := mBb (t := r 0 + x) (by omega)
            have hmky76 := hSy75.1
            have hgy77 := (hfvy28 (i + 1) (ne_o (i := i) (c := 1) (d := 0) rfl)).trans hgy27
            have hgy78 := (hfvy32 (i + 1) (ne_o (i := i) (c := 1) (d := 0) rfl)).trans hgy77
            refine z_cV (As := [.int (zI (0)), .int (zI ((n : Int))), .int (zI (z1))]) (rest := []) (ci := 12) C (c_X10_load l D A cs tt N ad _ i hN _ hcvy32 _ hgy78 0 n py30 hpy30 (by omega) (by omega) (mB (r 0 + x)) (eB (r 0 + x)) (by omega) (by omega) hSy75 (z1) (by omega)) (lt_A0 hN rfl) hay1 hcvy32 rfl rfl mv_yX10_load q_1823 hd_yX10_load (by decide) (Nat.le_of_ble_eq_true rfl) (by decide) dX10_layer_72 rfl (kI0 fun vy79 gvy79 hvy79 => ?_)
            obtain ⟨hvy79, rfl⟩ := hvy79
            have hFy80 : ∀ f, f ≠ 12 → Fvy32 f = F f := fun f n12 => ((hFvy32 f n12).trans ((hFvy28 f n12).trans ((uZ_n _ _ n12).trans rfl)))
            have hey81 : Fvy32 13 = F 13 := ((hFvy32 13 (by decide)).trans ((hFvy28 13 (by decide)).trans (fn rfl (by decide))))
            have hey82 : Fvy32 14 = F 14 := ((hFvy32 14 (by decide)).trans ((hFvy28 14 (by decide)).trans (fn rfl (by decide))))
            have hey83 : Fvy32 15 = F 15 := ((hFvy32 15 (by decide)).trans ((hFvy28 15 (by decide)).trans (fn rfl (by decide))))
            have hey84 : Fvy32 16 = F 16 := ((hFvy32 16 (by decide)).trans ((hFvy28 16 (by decide)).trans (fn rfl (by decide))))
            have hey85 : Fvy32 17 = F 17 := ((hFvy32 17 (by decide)).trans ((hFvy28 17 (by decide)).trans (fn rfl (by decide))))
            have hey86 : Fvy32 18 = F 18 := ((hFvy32 18 (by decide)).trans ((hFvy28 18 (by decide)).trans (fn rfl (by decide))))
            have hey87 : Fvy32 19 = F 19 := ((hFvy32 19 (by decide)).trans ((hFvy28 19 (by decide)).trans (fn rfl (by decide))))
            have hey88 : Fvy32 20 = F 20 := ((hFvy32 20 (by decide)).trans ((hFvy28 20 (by decide)).trans (fn rfl (by decide))))
            have hey89 : Fvy32 21 = F 21 := ((hFvy32 21 (by decide)).trans ((hFvy28 21 (by decide)).trans (fn rfl (by decide))))
            have hey90 : Fvy32 23 = F 23 := ((hFvy32 23 (by decide)).trans ((hFvy28 23 (by decide)).trans (fn rfl (by decide))))
            have hey91 : Fvy32 25 = F 25 := ((hFvy32 25 (by decide)).trans ((hFvy28 25 (by decide)).trans (fn rfl (by decide))))
            have hey92 : Fvy32 27 = F 27 := ((hFvy32 27 (by decide)).trans ((hFvy28 27 (by decide)).trans (fn rfl (by decide))))
            have hey93 : Fvy32 28 = F 28 := ((hFvy32 28 (by decide)).trans ((hFvy28 28 (by decide)).trans (fn rfl (by decide))))
            have hey94 : Fvy32 29 = F 29 := ((hFvy32 29 (by decide)).trans ((hFvy28 29 (by decide)).trans (fn rfl (by decide))))
            have hKy95 : okF Fvy32 := okF.mv hM.2.1 hey81 hey82 hey83 hey84 hey85 hey86 hey87 hey88 hey89 hey90 hey91 hey92 hey93 hey94
            have hMy96 : okMr cs ad gvy32 i (x + 1) Fvy32 r st op ai fa mu tb tp := okMr.upd hM hcvy32 hKy95 (fun f a => hFy80 f (by omega)) hgy78 (hA.mono (by omega)) (fun j a b => by
                exact Or.inl (by rw [hfvy32 _ (by omega)]; rw [hfvy28 _ (by omega)]; rw [egy25, va_up_ne _ _ (by omega)]))
            have hkpy97 : Fvy32 13 = F 13 := ((hFvy32 13 (by decide)).trans ((hFvy28 13 (by decide)).trans (fn rfl (by decide))))
            have hkpy98 : Fvy32 14 = F 14 := ((hFvy32 14 (by decide)).trans ((hFvy28 14 (by decide)).trans (fn rfl (by decide))))
            have hkpy99 : Fvy32 15 = F 15 := ((hFvy32 15 (by decide)).trans ((hFvy28 15 (by decide)).trans (fn rfl (by decide))))
            have hkpy100 : Fvy32 16 = F 16 := ((hFvy32 16 (by decide)).trans ((hFvy28 16 (by decide)).trans (fn rfl (by decide))))
            have hkpy101 : Fvy32 17 = F 17 := ((hFvy32 17 (by decide)).trans ((hFvy28 17 (by decide)).trans (fn rfl (by decide))))
            have hkpy102 : Fvy32 18 = F 18 := ((hFvy32 18 (by decide)).trans ((hFvy28 18 (by decide)).trans (fn rfl (by decide))))
            have hkpy103 : Fvy32 19 = F 19 := ((hFvy32 19 (by decide)).trans ((hFvy28 19 (by decide)).trans (fn rfl (by decide))))
            have hkpy104 : Fvy32 20 = F 20 := ((hFvy32 20 (by decide)).trans ((hFvy28 20 (by decide)).trans (fn rfl (by decide))))
            have hkpy105 : Fvy32 21 = F 21 := ((hFvy32 21 (by decide)).trans ((hFvy28 21 (by decide)).trans (fn rfl (by decide))))
            have hkpy106 : Fvy32 23 = F 23 := ((hFvy32 23 (by decide)).trans ((hFvy28 23 (by decide)).trans (fn rfl (by decide))))
            have hkpy107 : Fvy32 24 = F 24 := ((hFvy32 24 (by decide)).trans ((hFvy28 24 (by decide)).trans (fn rfl (by decide))))
            have hkpy108 : Fvy32 25 = F 25 := ((hFvy32 25 (by decide)).trans ((hFvy28 25 (by decide)).trans (fn rfl (by decide))))
            have hkpy109 : Fvy32 26 = F 26 := ((hFvy32 26 (by decide)).trans ((hFvy28 26 (by decide)).trans (fn rfl (by decide))))
            have hkpy110 : Fvy32 27 = F 27 := ((hFvy32 27 (by decide)).trans ((hFvy28 27 (by decide)).trans (fn rfl (by decide))))
            have hkpy111 : Fvy32 29 = F 29 := ((hFvy32 29 (by decide)).trans ((hFvy28 29 (by decide)).trans (fn rfl (by decide))))
            exact z_iret C hr hlk dX10_layer_75 (by decide) (by decide) ⟨vy79, rfl, rfl, rfl, by omega, ⟨_, _, hMy96, ⟨hkpy97, hkpy98, hkpy99, hkpy100, hkpy101, hkpy102, hkpy103, hkpy104, hkpy105, hkpy106, hkpy107⟩, ⟨(hkpy108.trans hp25), (hkpy109.trans hp26), (hkpy110.trans hp27), (hkpy111.trans hp29)⟩, (fun j _ => rfl)⟩, fun j j1 => by rw [hfvy32 _ (by omega)]; rw [hfvy28 _ (by omega)]; rw [egy25, va_up_ne _ _ (by omega)]⟩
          · refine z_tin (off := 44) (tgt := 76) C dX10_layer_32 (by omega) (by omega) (by omega) rfl (by decide) ?_
            refine z_aload_n C 0 dX10_layer_76 rfl ?_
            refine z_iconst (z := 0) C dX10_layer_77 rfl ?_
            refine z_iload_n C 1 dX10_layer_78 rfl ?_
            refine z_iload_n C 2 dX10_layer_79 rfl ?_
            refine z_aload_n C 0 dX10_layer_80 rfl ?_
            refine z_iconst (z := 0) C dX10_layer_81 rfl ?_
            have hgy112 := (hfvy28 (i + 1) (ne_o (i := i) (c := 1) (d := 0) rfl)).trans hgy27
            have hgy113 := (hfvy32 (i + 1) (ne_o (i := i) (c := 1) (d := 0) rfl)).trans hgy112
            have hey115 : Fvy32 14 = F 14 := ((hFvy32 14 (by decide)).trans ((hFvy28 14 (by decide)).trans (fn rfl (by decide))))
            have hey116 : Fvy32 25 = F 25 := ((hFvy32 25 (by decide)).trans ((hFvy28 25 (by decide)).trans (fn rfl (by decide))))
            have hgy117 := up_n egy25 ha4 (ne_o (i := i) (c := 4) (d := 0) rfl)
            have hgy118 := (hfvy28 (i + 4) (ne_o (i := i) (c := 4) (d := 0) rfl)).trans hgy117
            have hgy119 := (hfvy32 (i + 4) (ne_o (i := i) (c := 4) (d := 0) rfl)).trans hgy118
            refine z_cV (As := [.int (zI (0))]) (rest := [.int (zI (z1)), .int (zI ((n : Int))), .int (zI (0)), .ref (ad i)]) (ci := 12) C (c_X10_airOf l D A cs tt N ad _ i hN _ hcvy32 _ hgy113 _ hgy119 0 (by omega) (by omega) (by omega) (by omega) hai) (lt_A0 hN rfl) hay1 hcvy32 rfl rfl mv_yX10_airOf q_1827 hd_yX10_airOf (by decide) (Nat.le_of_ble_eq_true rfl) (by decide) dX10_layer_82 rfl (kI0 fun vy114 gvy114 hvy114 => ?_)
            obtain ⟨hvy114, rfl⟩ := hvy114
            have hqy121 : qS r py30 := (((okA.at0 hA).1.1 n (by omega)).of (p2 := py30) (by omega)).q (by have hb9 := mBb (t := r 0 + x) (by omega); omega)
            have hmky122 := hqy121.1
            refine z_cV (As := [.int (zI (0)), .int (zI ((n : Int))), .int (zI (z1)), .int (zI (vy114))]) (rest := []) (ci := 12) C (c_X10_grade l D A cs tt N ad _ i hN _ hcvy32 _ hgy113 0 n py30 hpy30 (by omega) (by omega) hqy121 (z1) (by omega) (vy114) (by omega)) (lt_A0 hN rfl) hay1 hcvy32 rfl rfl mv_yX10_grade q_1835 hd_yX10_grade (by decide) (Nat.le_of_ble_eq_true rfl) (by decide) dX10_layer_85 rfl (kI0 fun vy120 gvy120 hvy120 => ?_)
            obtain ⟨hvy120, rfl⟩ := hvy120
            have hFy123 : ∀ f, f ≠ 12 → Fvy32 f = F f := fun f n12 => ((hFvy32 f n12).trans ((hFvy28 f n12).trans ((uZ_n _ _ n12).trans rfl)))
            have hey124 : Fvy32 13 = F 13 := ((hFvy32 13 (by decide)).trans ((hFvy28 13 (by decide)).trans (fn rfl (by decide))))
            have hey125 : Fvy32 14 = F 14 := ((hFvy32 14 (by decide)).trans ((hFvy28 14 (by decide)).trans (fn rfl (by decide))))
            have hey126 : Fvy32 15 = F 15 := ((hFvy32 15 (by decide)).trans ((hFvy28 15 (by decide)).trans (fn rfl (by decide))))
            have hey127 : Fvy32 16 = F 16 := ((hFvy32 16 (by decide)).trans ((hFvy28 16 (by decide)).trans (fn rfl (by decide))))
            have hey128 : Fvy32 17 = F 17 := ((hFvy32 17 (by decide)).trans ((hFvy28 17 (by decide)).trans (fn rfl (by decide))))
            have hey129 : Fvy32 18 = F 18 := ((hFvy32 18 (by decide)).trans ((hFvy28 18 (by decide)).trans (fn rfl (by decide))))
            have hey130 : Fvy32 19 = F 19 := ((hFvy32 19 (by decide)).trans ((hFvy28 19 (by decide)).trans (fn rfl (by decide))))
            have hey131 : Fvy32 20 = F 20 := ((hFvy32 20 (by decide)).trans ((hFvy28 20 (by decide)).trans (fn rfl (by decide))))
            have hey132 : Fvy32 21 = F 21 := ((hFvy32 21 (by decide)).trans ((hFvy28 21 (by decide)).trans (fn rfl (by decide))))
            have hey133 : Fvy32 23 = F 23 := ((hFvy32 23 (by decide)).trans ((hFvy28 23 (by decide)).trans (fn rfl (by decide))))
            have hey134 : Fvy32 25 = F 25 := ((hFvy32 25 (by decide)).trans ((hFvy28 25 (by decide)).trans (fn rfl (by decide))))
            have hey135 : Fvy32 27 = F 27 := ((hFvy32 27 (by decide)).trans ((hFvy28 27 (by decide)).trans (fn rfl (by decide))))
            have hey136 : Fvy32 28 = F 28 := ((hFvy32 28 (by decide)).trans ((hFvy28 28 (by decide)).trans (fn rfl (by decide))))
            have hey137 : Fvy32 29 = F 29 := ((hFvy32 29 (by decide)).trans ((hFvy28 29 (by decide)).trans (fn rfl (by decide))))
            have hKy138 : okF Fvy32 := okF.mv hM.2.1 hey124 hey125 hey126 hey127 hey128 hey129 hey130 hey131 hey132 hey133 hey134 hey135 hey136 hey137
            have hMy139 : okMr cs ad gvy32 i (x + 1) Fvy32 r st op ai fa mu tb tp := okMr.upd hM hcvy32 hKy138 (fun f a => hFy123 f (by omega)) hgy113 (hA.mono (by omega)) (fun j a b => by
                exact Or.inl (by rw [hfvy32 _ (by omega)]; rw [hfvy28 _ (by omega)]; rw [egy25, va_up_ne _ _ (by omega)]))
            have hkpy140 : Fvy32 13 = F 13 := ((hFvy32 13 (by decide)).trans ((hFvy28 13 (by decide)).trans (fn rfl (by decide))))
            have hkpy141 : Fvy32 14 = F 14 := ((hFvy32 14 (by decide)).trans ((hFvy28 14 (by decide)).trans (fn rfl (by decide))))
            have hkpy142 : Fvy32 15 = F 15 := ((hFvy32 15 (by decide)).trans ((hFvy28 15 (by decide)).trans (fn rfl (by decide))))
            have hkpy143 : Fvy32 16 = F 16 := ((hFvy32 16 (by decide)).trans ((hFvy28 16 (by decide)).trans (fn rfl (by decide))))
            have hkpy144 : Fvy32 17 = F 17 := ((hFvy32 17 (by decide)).trans ((hFvy28 17 (by decide)).trans (fn rfl (by decide))))
            have hkpy145 : Fvy32 18 = F 18 := ((hFvy32 18 (by decide)).trans ((hFvy28 18 (by decide)).trans (fn rfl (by decide))))
            have hkpy146 : Fvy32 19 = F 19 := ((hFvy32 19 (by decide)).trans ((hFvy28 19 (by decide)).trans (fn rfl (by decide))))
            have hkpy147 : Fvy32 20 = F 20 := ((hFvy32 20 (by decide)).trans ((hFvy28 20 (by decide)).trans (fn rfl (by decide))))
            have hkpy148 : Fvy32 21 = F 21 := ((hFvy32 21 (by decide)).trans ((hFvy28 21 (by decide)).trans (fn rfl (by decide))))
            have hkpy149 : Fvy32 23 = F 23 := ((hFvy32 23 (by decide)).trans ((hFvy28 23 (by decide)).trans (fn rfl (by decide))))
            have hkpy150 : Fvy32 24 = F 24 := ((hFvy32 24 (by decide)).trans ((hFvy28 24 (by decide)).trans (fn rfl (by decide))))
            have hkpy151 : Fvy32 25 = F 25 := ((hFvy32 25 (by decide)).trans ((hFvy28 25 (by decide)).trans (fn rfl (by decide))))
            have hkpy152 : Fvy32 26 = F 26 := ((hFvy32 26 (by decide)).trans ((hFvy28 26 (by decide)).trans (fn rfl (by decide))))
            have hkpy153 : Fvy32 27 = F 27 := ((hFvy32 27 (by decide)).trans ((hFvy28 27 (by decide)).trans (fn rfl (by decide))))
            have hkpy154 : Fvy32 29 = F 29 := ((hFvy32 29 (by decide)).trans ((hFvy28 29 (by decide)).trans (fn rfl (by decide))))
            exact z_iret C hr hlk dX10_layer_88 (by decide) (by decide) ⟨vy120, rfl, rfl, rfl, by omega, ⟨_, _, hMy139, ⟨hkpy140, hkpy141, hkpy142, hkpy143, hkpy144, hkpy145, hkpy146, hkpy147, hkpy148, hkpy149, hkpy150⟩, ⟨(hkpy151.trans hp25), (hkpy152.trans hp26), (hkpy153.trans hp27), (hkpy154.trans hp29)⟩, (fun j _ => rfl)⟩, fun j j1 => by rw [hfvy32 _ (by omega)]; rw [hfvy28 _ (by omega)]; rw [egy25, va_up_ne _ _ (by omega)]⟩
          · refine z_tin (off := 57) (tgt := 89) C dX10_layer_32 (by omega) (by omega) (by omega) rfl (by decide) ?_
            refine z_aload_n C 0 dX10_layer_89 rfl ?_
            refine z_iconst (z := 0) C dX10_layer_90 rfl ?_
            refine z_iload_n C 1 dX10_layer_91 rfl ?_
            refine z_iload_n C 2 dX10_layer_92 rfl ?_
            have hgy155 := (hfvy28 (i + 1) (ne_o (i := i) (c := 1) (d := 0) rfl)).trans hgy27
            have hgy156 := (hfvy32 (i + 1) (ne_o (i := i) (c := 1) (d := 0) rfl)).trans hgy155
            have hgy158 := up_n egy25 ha7 (ne_o (i := i) (c := 7) (d := 0) rfl)
            have hgy159 := (hfvy28 (i + 7) (ne_o (i := i) (c := 7) (d := 0) rfl)).trans hgy158
            have hgy160 := (hfvy32 (i + 7) (ne_o (i := i) (c := 7) (d := 0) rfl)).trans hgy159
            have hqy161 : qS r py30 := (((okA.at0 hA).1.1 n (by omega)).of (p2 := py30) (by omega)).q (by have hb9 := mBb (t := r 0 + x) (by omega); omega)
            have hmky162 := hqy161.1
            refine z_cV (As := [.int (zI (0)), .int (zI ((n : Int))), .int (zI (z1))]) (rest := []) (ci := 12) C (c_X10_strength l D A cs tt N ad _ i hN _ hcvy32 _ hgy156 _ hgy160 0 n py30 hpy30 (by omega) (by omega) hqy161 (z1) (by omega)) (lt_A0 hN rfl) hay1 hcvy32 rfl rfl mv_yX10_strength q_1788 hd_yX10_strength (by decide) (Nat.le_of_ble_eq_true rfl) (by decide) dX10_layer_93 rfl (kI0 fun vy157 gvy157 hvy157 => ?_)
            obtain ⟨hvy157, rfl⟩ := hvy157
            have hFy163 : ∀ f, f ≠ 12 → Fvy32 f = F f := fun f n12 => ((hFvy32 f n12).trans ((hFvy28 f n12).trans ((uZ_n _ _ n12).trans rfl)))
            have hey164 : Fvy32 13 = F 13 := ((hFvy32 13 (by decide)).trans ((hFvy28 13 (by decide)).trans (fn rfl (by decide))))
            have hey165 : Fvy32 14 = F 14 := ((hFvy32 14 (by decide)).trans ((hFvy28 14 (by decide)).trans (fn rfl (by decide))))
            have hey166 : Fvy32 15 = F 15 := ((hFvy32 15 (by decide)).trans ((hFvy28 15 (by decide)).trans (fn rfl (by decide))))
            have hey167 : Fvy32 16 = F 16 := ((hFvy32 16 (by decide)).trans ((hFvy28 16 (by decide)).trans (fn rfl (by decide))))
            have hey168 : Fvy32 17 = F 17 := ((hFvy32 17 (by decide)).trans ((hFvy28 17 (by decide)).trans (fn rfl (by decide))))
            have hey169 : Fvy32 18 = F 18 := ((hFvy32 18 (by decide)).trans ((hFvy28 18 (by decide)).trans (fn rfl (by decide))))
            have hey170 : Fvy32 19 = F 19 := ((hFvy32 19 (by decide)).trans ((hFvy28 19 (by decide)).trans (fn rfl (by decide))))
            have hey171 : Fvy32 20 = F 20 := ((hFvy32 20 (by decide)).trans ((hFvy28 20 (by decide)).trans (fn rfl (by decide))))
            have hey172 : Fvy32 21 = F 21 := ((hFvy32 21 (by decide)).trans ((hFvy28 21 (by decide)).trans (fn rfl (by decide))))
            have hey173 : Fvy32 23 = F 23 := ((hFvy32 23 (by decide)).trans ((hFvy28 23 (by decide)).trans (fn rfl (by decide))))
            have hey174 : Fvy32 25 = F 25 := ((hFvy32 25 (by decide)).trans ((hFvy28 25 (by decide)).trans (fn rfl (by decide))))
            have hey175 : Fvy32 27 = F 27 := ((hFvy32 27 (by decide)).trans ((hFvy28 27 (by decide)).trans (fn rfl (by decide))))
            have hey176 : Fvy32 28 = F 28 := ((hFvy32 28 (by decide)).trans ((hFvy28 28 (by decide)).trans (fn rfl (by decide))))
            have hey177 : Fvy32 29 = F 29 := ((hFvy32 29 (by decide)).trans ((hFvy28 29 (by decide)).trans (fn rfl (by decide))))
            have hKy178 : okF Fvy32 := okF.mv hM.2.1 hey164 hey165 hey166 hey167 hey168 hey169 hey170 hey171 hey172 hey173 hey174 hey175 hey176 hey177
            have hMy179 : okMr cs ad gvy32 i (x + 1) Fvy32 r st op ai fa mu tb tp := okMr.upd hM hcvy32 hKy178 (fun f a => hFy163 f (by omega)) hgy156 (hA.mono (by omega)) (fun j a b => by
                exact Or.inl (by rw [hfvy32 _ (by omega)]; rw [hfvy28 _ (by omega)]; rw [egy25, va_up_ne _ _ (by omega)]))
            have hkpy180 : Fvy32 13 = F 13 := ((hFvy32 13 (by decide)).trans ((hFvy28 13 (by decide)).trans (fn rfl (by decide))))
            have hkpy181 : Fvy32 14 = F 14 := ((hFvy32 14 (by decide)).trans ((hFvy28 14 (by decide)).trans (fn rfl (by decide))))
            have hkpy182 : Fvy32 15 = F 15 := ((hFvy32 15 (by decide)).trans ((hFvy28 15 (by decide)).trans (fn rfl (by decide))))
            have hkpy183 : Fvy32 16 = F 16 := ((hFvy32 16 (by decide)).trans ((hFvy28 16 (by decide)).trans (fn rfl (by decide))))
            have hkpy184 : Fvy32 17 = F 17 := ((hFvy32 17 (by decide)).trans ((hFvy28 17 (by decide)).trans (fn rfl (by decide))))
            have hkpy185 : Fvy32 18 = F 18 := ((hFvy32 18 (by decide)).trans ((hFvy28 18 (by decide)).trans (fn rfl (by decide))))
            have hkpy186 : Fvy32 19 = F 19 := ((hFvy32 19 (by decide)).trans ((hFvy28 19 (by decide)).trans (fn rfl (by decide))))
            have hkpy187 : Fvy32 20 = F 20 := ((hFvy32 20 (by decide)).trans ((hFvy28 20 (by decide)).trans (fn rfl (by decide))))
            have hkpy188 : Fvy32 21 = F 21 := ((hFvy32 21 (by decide)).trans ((hFvy28 21 (by decide)).trans (fn rfl (by decide))))
            have hkpy189 : Fvy32 23 = F 23 := ((hFvy32 23 (by decide)).trans ((hFvy28 23 (by decide)).trans (fn rfl (by decide))))
            have hkpy190 : Fvy32 24 = F 24 := ((hFvy32 24 (by decide)).trans ((hFvy28 24 (by decide)).trans (fn rfl (by decide))))
            have hkpy191 : Fvy32 25 = F 25 := ((hFvy32 25 (by decide)).trans ((hFvy28 25 (by decide)).trans (fn rfl (by decide))))
            have hkpy192 : Fvy32 26 = F 26 := ((hFvy32 26 (by decide)).trans ((hFvy28 26 (by decide)).trans (fn rfl (by decide))))
            have hkpy193 : Fvy32 27 = F 27 := ((hFvy32 27 (by decide)).trans ((hFvy28 27 (by decide)).trans (fn rfl (by decide))))
            have hkpy194 : Fvy32 29 = F 29 := ((hFvy32 29 (by decide)).trans ((hFvy28 29 (by decide)).trans (fn rfl (by decide))))
            exact z_iret C hr hlk dX10_layer_96 (by decide) (by decide) ⟨vy157, rfl, rfl, rfl, by omega, ⟨_, _, hMy179, ⟨hkpy180, hkpy181, hkpy182, hkpy183, hkpy184, hkpy185, hkpy186, hkpy187, hkpy188, hkpy189, hkpy190⟩, ⟨(hkpy191.trans hp25), (hkpy192.trans hp26), (hkpy193.trans hp27), (hkpy194.trans hp29)⟩, (fun j _ => rfl)⟩, fun j j1 => by rw [hfvy32 _ (by omega)]; rw [hfvy28 _ (by omega)]; rw [egy25, va_up_ne _ _ (by omega)]⟩
          · refine z_tin (off := 65) (tgt := 97) C dX10_layer_32 (by omega) (by omega) (by omega) rfl (by decide) ?_
            refine z_aload_n C 0 dX10_layer_97 rfl ?_
            refine z_iconst (z := 0) C dX10_layer_98 rfl ?_
            refine z_iload_n C 1 dX10_layer_99 rfl ?_
            refine z_iload_n C 2 dX10_layer_100 rfl ?_
            refine z_iconst (z := 0) C dX10_layer_101 rfl ?_
            refine z_aload_n C 0 dX10_layer_102 rfl ?_
            refine z_get (v := .ref (ad (i + 2))) C (lt_A0 hN rfl) hay1 hcvy32 rfl inA_X10 1 (by decide) q_1460 rfl rfl dX10_layer_103 ?_
            refine z_iload_n C 1 dX10_layer_106 rfl ?_
            have hgy195 := up_n egy25 ha2 (ne_o (i := i) (c := 2) (d := 0) rfl)
            have hgy196 := (hfvy28 (i + 2) (ne_o (i := i) (c := 2) (d := 0) rfl)).trans hgy195
            have hgy197 := (hfvy32 (i + 2) (ne_o (i := i) (c := 2) (d := 0) rfl)).trans hgy196
            refine z_iald C (lt_A (c := 2) hN rfl) hay3 hgy197 (n) (by omega) (by omega) (by decide) dX10_layer_107 ?_
            obtain ⟨xy198, exy199, hxy200⟩ := zI_of (zI (st (n)))
            rw [exy199]
            have hgy201 := (hfvy28 (i + 1) (ne_o (i := i) (c := 1) (d := 0) rfl)).trans hgy27
            have hgy202 := (hfvy32 (i + 1) (ne_o (i := i) (c := 1) (d := 0) rfl)).trans hgy201
            have hqy204 : qS r py30 := (((okA.at0 hA).1.1 n (by omega)).of (p2 := py30) (by omega)).q (by have hb9 := mBb (t := r 0 + x) (by omega); omega)
            have hmky205 := hqy204.1
            refine z_cV (As := [.int (zI (0)), .int (zI ((n : Int))), .int (zI (z1)), .int (zI (0)), .int (zI (xy198))]) (rest := []) (ci := 12) C (c_X10_burden l D A cs tt N ad _ i hN _ hcvy32 _ hgy202 0 n py30 hpy30 (by omega) (by omega) hqy204 (z1) (by omega) (0) (by omega) (xy198) (by omega)) (lt_A0 hN rfl) hay1 hcvy32 rfl rfl mv_yX10_burden q_1776 hd_yX10_burden (by decide) (Nat.le_of_ble_eq_true rfl) (by decide) dX10_layer_108 rfl (kI0 fun vy203 gvy203 hvy203 => ?_)
            obtain ⟨hvy203, hzvy203, rfl⟩ := hvy203
            have hFy206 : ∀ f, f ≠ 12 → Fvy32 f = F f := fun f n12 => ((hFvy32 f n12).trans ((hFvy28 f n12).trans ((uZ_n _ _ n12).trans rfl)))
            have hey207 : Fvy32 13 = F 13 := ((hFvy32 13 (by decide)).trans ((hFvy28 13 (by decide)).trans (fn rfl (by decide))))
            have hey208 : Fvy32 14 = F 14 := ((hFvy32 14 (by decide)).trans ((hFvy28 14 (by decide)).trans (fn rfl (by decide))))
            have hey209 : Fvy32 15 = F 15 := ((hFvy32 15 (by decide)).trans ((hFvy28 15 (by decide)).trans (fn rfl (by decide))))
            have hey210 : Fvy32 16 = F 16 := ((hFvy32 16 (by decide)).trans ((hFvy28 16 (by decide)).trans (fn rfl (by decide))))
            have hey211 : Fvy32 17 = F 17 := ((hFvy32 17 (by decide)).trans ((hFvy28 17 (by decide)).trans (fn rfl (by decide))))
            have hey212 : Fvy32 18 = F 18 := ((hFvy32 18 (by decide)).trans ((hFvy28 18 (by decide)).trans (fn rfl (by decide))))
            have hey213 : Fvy32 19 = F 19 := ((hFvy32 19 (by decide)).trans ((hFvy28 19 (by decide)).trans (fn rfl (by decide))))
            have hey214 : Fvy32 20 = F 20 := ((hFvy32 20 (by decide)).trans ((hFvy28 20 (by decide)).trans (fn rfl (by decide))))
            have hey215 : Fvy32 21 = F 21 := ((hFvy32 21 (by decide)).trans ((hFvy28 21 (by decide)).trans (fn rfl (by decide))))
            have hey216 : Fvy32 23 = F 23 := ((hFvy32 23 (by decide)).trans ((hFvy28 23 (by decide)).trans (fn rfl (by decide))))
            have hey217 : Fvy32 25 = F 25 := ((hFvy32 25 (by decide)).trans ((hFvy28 25 (by decide)).trans (fn rfl (by decide))))
            have hey218 : Fvy32 27 = F 27 := ((hFvy32 27 (by decide)).trans ((hFvy28 27 (by decide)).trans (fn rfl (by decide))))
            have hey219 : Fvy32 28 = F 28 := ((hFvy32 28 (by decide)).trans ((hFvy28 28 (by decide)).trans (fn rfl (by decide))))
            have hey220 : Fvy32 29 = F 29 := ((hFvy32 29 (by decide)).trans ((hFvy28 29 (by decide)).trans (fn rfl (by decide))))
            have hKy221 : okF Fvy32 := okF.mv hM.2.1 hey207 hey208 hey209 hey210 hey211 hey212 hey213 hey214 hey215 hey216 hey217 hey218 hey219 hey220
            have hMy222 : okMr cs ad gvy32 i (x + 1) Fvy32 r st op ai fa mu tb tp := okMr.upd hM hcvy32 hKy221 (fun f a => hFy206 f (by omega)) hgy202 (hA.mono (by omega)) (fun j a b => by
                exact Or.inl (by rw [hfvy32 _ (by omega)]; rw [hfvy28 _ (by omega)]; rw [egy25, va_up_ne _ _ (by omega)]))
            have hkpy223 : Fvy32 13 = F 13 := ((hFvy32 13 (by decide)).trans ((hFvy28 13 (by decide)).trans (fn rfl (by decide))))
            have hkpy224 : Fvy32 14 = F 14 := ((hFvy32 14 (by decide)).trans ((hFvy28 14 (by decide)).trans (fn rfl (by decide))))
            have hkpy225 : Fvy32 15 = F 15 := ((hFvy32 15 (by decide)).trans ((hFvy28 15 (by decide)).trans (fn rfl (by decide))))
            have hkpy226 : Fvy32 16 = F 16 := ((hFvy32 16 (by decide)).trans ((hFvy28 16 (by decide)).trans (fn rfl (by decide))))
            have hkpy227 : Fvy32 17 = F 17 := ((hFvy32 17 (by decide)).trans ((hFvy28 17 (by decide)).trans (fn rfl (by decide))))
            have hkpy228 : Fvy32 18 = F 18 := ((hFvy32 18 (by decide)).trans ((hFvy28 18 (by decide)).trans (fn rfl (by decide))))
            have hkpy229 : Fvy32 19 = F 19 := ((hFvy32 19 (by decide)).trans ((hFvy28 19 (by decide)).trans (fn rfl (by decide))))
            have hkpy230 : Fvy32 20 = F 20 := ((hFvy32 20 (by decide)).trans ((hFvy28 20 (by decide)).trans (fn rfl (by decide))))
            have hkpy231 : Fvy32 21 = F 21 := ((hFvy32 21 (by decide)).trans ((hFvy28 21 (by decide)).trans (fn rfl (by decide))))
            have hkpy232 : Fvy32 23 = F 23 := ((hFvy32 23 (by decide)).trans ((hFvy28 23 (by decide)).trans (fn rfl (by decide))))
            have hkpy233 : Fvy32 24 = F 24 := ((hFvy32 24 (by decide)).trans ((hFvy28 24 (by decide)).trans (fn rfl (by decide))))
            have hkpy234 : Fvy32 25 = F 25 := ((hFvy32 25 (by decide)).trans ((hFvy28 25 (by decide)).trans (fn rfl (by decide))))
            have hkpy235 : Fvy32 26 = F 26 := ((hFvy32 26 (by decide)).trans ((hFvy28 26 (by decide)).trans (fn rfl (by decide))))
            have hkpy236 : Fvy32 27 = F 27 := ((hFvy32 27 (by decide)).trans ((hFvy28 27 (by decide)).trans (fn rfl (by decide))))
            have hkpy237 : Fvy32 29 = F 29 := ((hFvy32 29 (by decide)).trans ((hFvy28 29 (by decide)).trans (fn rfl (by decide))))
            exact z_iret C hr hlk dX10_layer_111 (by decide) (by decide) ⟨vy203, rfl, rfl, rfl, by omega, ⟨_, _, hMy222, ⟨hkpy223, hkpy224, hkpy225, hkpy226, hkpy227, hkpy228, hkpy229, hkpy230, hkpy231, hkpy232, hkpy233⟩, ⟨(hkpy234.trans hp25), (hkpy235.trans hp26), (hkpy236.trans hp27), (hkpy237.trans hp29)⟩, (fun j _ => rfl)⟩, fun j j1 => by rw [hfvy32 _ (by omega)]; rw [hfvy28 _ (by omega)]; rw [egy25, va_up_ne _ _ (by omega)]⟩
          · refine z_tin (off := 80) (tgt := 112) C dX10_layer_32 (by omega) (by omega) (by omega) rfl (by decide) ?_
            refine z_aload_n C 0 dX10_layer_112 rfl ?_
            refine z_iconst (z := 0) C dX10_layer_113 rfl ?_
            refine z_iload_n C 1 dX10_layer_114 rfl ?_
            refine z_iload_n C 2 dX10_layer_115 rfl ?_
            refine z_iconst (z := 0) C dX10_layer_116 rfl ?_
            refine z_aload_n C 0 dX10_layer_117 rfl ?_
            refine z_get (v := .ref (ad (i + 2))) C (lt_A0 hN rfl) hay1 hcvy32 rfl inA_X10 1 (by decide) q_1460 rfl rfl dX10_layer_118 ?_
            refine z_iload_n C 1 dX10_layer_121 rfl ?_
            have hgy238 := up_n egy25 ha2 (ne_o (i := i) (c := 2) (d := 0) rfl)
            have hgy239 := (hfvy28 (i + 2) (ne_o (i := i) (c := 2) (d := 0) rfl)).trans hgy238
            have hgy240 := (hfvy32 (i + 2) (ne_o (i := i) (c := 2) (d := 0) rfl)).trans hgy239
            refine z_iald C (lt_A (c := 2) hN rfl) hay3 hgy240 (n) (by omega) (by omega) (by decide) dX10_layer_122 ?_
            obtain ⟨xy241, exy242, hxy243⟩ := zI_of (zI (st (n)))
            rw [exy242]
            have hgy244 := (hfvy28 (i + 1) (ne_o (i := i) (c := 1) (d := 0) rfl)).trans hgy27
            have hgy245 := (hfvy32 (i + 1) (ne_o (i := i) (c := 1) (d := 0) rfl)).trans hgy244
            have hgy247 := up_n egy25 ha7 (ne_o (i := i) (c := 7) (d := 0) rfl)
            have hgy248 := (hfvy28 (i + 7) (ne_o (i := i) (c := 7) (d := 0) rfl)).trans hgy247
            have hgy249 := (hfvy32 (i + 7) (ne_o (i := i) (c := 7) (d := 0) rfl)).trans hgy248
            have hqy250 : qS r py30 := (((okA.at0 hA).1.1 n (by omega)).of (p2 := py30) (by omega)).q (by have hb9 := mBb (t := r 0 + x) (by omega); omega)
            have hmky251 := hqy250.1
            refine z_cV (As := [.int (zI (0)), .int (zI ((n : Int))), .int (zI (z1)), .int (zI (0)), .int (zI (xy241))]) (rest := []) (ci := 12) C (c_X10_ratio l D A cs tt N ad _ i hN _ hcvy32 _ hgy245 _ hgy249 0 n py30 hpy30 (by omega) (by omega) hqy250 (z1) (by omega) (0) (by omega) (xy241) (by omega)) (lt_A0 hN rfl) hay1 hcvy32 rfl rfl mv_yX10_ratio q_1772 hd_yX10_ratio (by decide) (Nat.le_of_ble_eq_true rfl) (by decide) dX10_layer_123 rfl (kI0 fun vy246 gvy246 hvy246 => ?_)
            obtain ⟨hvy246, hzvy246, rfl⟩ := hvy246
            have hFy252 : ∀ f, f ≠ 12 → Fvy32 f = F f := fun f n12 => ((hFvy32 f n12).trans ((hFvy28 f n12).trans ((uZ_n _ _ n12).trans rfl)))
            have hey253 : Fvy32 13 = F 13 := ((hFvy32 13 (by decide)).trans ((hFvy28 13 (by decide)).trans (fn rfl (by decide))))
            have hey254 : Fvy32 14 = F 14 := ((hFvy32 14 (by decide)).trans ((hFvy28 14 (by decide)).trans (fn rfl (by decide))))
            have hey255 : Fvy32 15 = F 15 := ((hFvy32 15 (by decide)).trans ((hFvy28 15 (by decide)).trans (fn rfl (by decide))))
            have hey256 : Fvy32 16 = F 16 := ((hFvy32 16 (by decide)).trans ((hFvy28 16 (by decide)).trans (fn rfl (by decide))))
            have hey257 : Fvy32 17 = F 17 := ((hFvy32 17 (by decide)).trans ((hFvy28 17 (by decide)).trans (fn rfl (by decide))))
            have hey258 : Fvy32 18 = F 18 := ((hFvy32 18 (by decide)).trans ((hFvy28 18 (by decide)).trans (fn rfl (by decide))))
            have hey259 : Fvy32 19 = F 19 := ((hFvy32 19 (by decide)).trans ((hFvy28 19 (by decide)).trans (fn rfl (by decide))))
            have hey260 : Fvy32 20 = F 20 := ((hFvy32 20 (by decide)).trans ((hFvy28 20 (by decide)).trans (fn rfl (by decide))))
            have hey261 : Fvy32 21 = F 21 := ((hFvy32 21 (by decide)).trans ((hFvy28 21 (by decide)).trans (fn rfl (by decide))))
            have hey262 : Fvy32 23 = F 23 := ((hFvy32 23 (by decide)).trans ((hFvy28 23 (by decide)).trans (fn rfl (by decide))))
            have hey263 : Fvy32 25 = F 25 := ((hFvy32 25 (by decide)).trans ((hFvy28 25 (by decide)).trans (fn rfl (by decide))))
            have hey264 : Fvy32 27 = F 27 := ((hFvy32 27 (by decide)).trans ((hFvy28 27 (by decide)).trans (fn rfl (by decide))))
            have hey265 : Fvy32 28 = F 28 := ((hFvy32 28 (by decide)).trans ((hFvy28 28 (by decide)).trans (fn rfl (by decide))))
            have hey266 : Fvy32 29 = F 29 := ((hFvy32 29 (by decide)).trans ((hFvy28 29 (by decide)).trans (fn rfl (by decide))))
            have hKy267 : okF Fvy32 := okF.mv hM.2.1 hey253 hey254 hey255 hey256 hey257 hey258 hey259 hey260 hey261 hey262 hey263 hey264 hey265 hey266
            have hMy268 : okMr cs ad gvy32 i (x + 1) Fvy32 r st op ai fa mu tb tp := okMr.upd hM hcvy32 hKy267 (fun f a => hFy252 f (by omega)) hgy245 (hA.mono (by omega)) (fun j a b => by
                exact Or.inl (by rw [hfvy32 _ (by omega)]; rw [hfvy28 _ (by omega)]; rw [egy25, va_up_ne _ _ (by omega)]))
            have hkpy269 : Fvy32 13 = F 13 := ((hFvy32 13 (by decide)).trans ((hFvy28 13 (by decide)).trans (fn rfl (by decide))))
            have hkpy270 : Fvy32 14 = F 14 := ((hFvy32 14 (by decide)).trans ((hFvy28 14 (by decide)).trans (fn rfl (by decide))))
            have hkpy271 : Fvy32 15 = F 15 := ((hFvy32 15 (by decide)).trans ((hFvy28 15 (by decide)).trans (fn rfl (by decide))))
            have hkpy272 : Fvy32 16 = F 16 := ((hFvy32 16 (by decide)).trans ((hFvy28 16 (by decide)).trans (fn rfl (by decide))))
            have hkpy273 : Fvy32 17 = F 17 := ((hFvy32 17 (by decide)).trans ((hFvy28 17 (by decide)).trans (fn rfl (by decide))))
            have hkpy274 : Fvy32 18 = F 18 := ((hFvy32 18 (by decide)).trans ((hFvy28 18 (by decide)).trans (fn rfl (by decide))))
            have hkpy275 : Fvy32 19 = F 19 := ((hFvy32 19 (by decide)).trans ((hFvy28 19 (by decide)).trans (fn rfl (by decide))))
            have hkpy276 : Fvy32 20 = F 20 := ((hFvy32 20 (by decide)).trans ((hFvy28 20 (by decide)).trans (fn rfl (by decide))))
            have hkpy277 : Fvy32 21 = F 21 := ((hFvy32 21 (by decide)).trans ((hFvy28 21 (by decide)).trans (fn rfl (by decide))))
            have hkpy278 : Fvy32 23 = F 23 := ((hFvy32 23 (by decide)).trans ((hFvy28 23 (by decide)).trans (fn rfl (by decide))))
            have hkpy279 : Fvy32 24 = F 24 := ((hFvy32 24 (by decide)).trans ((hFvy28 24 (by decide)).trans (fn rfl (by decide))))
            have hkpy280 : Fvy32 25 = F 25 := ((hFvy32 25 (by decide)).trans ((hFvy28 25 (by decide)).trans (fn rfl (by decide))))
            have hkpy281 : Fvy32 26 = F 26 := ((hFvy32 26 (by decide)).trans ((hFvy28 26 (by decide)).trans (fn rfl (by decide))))
            have hkpy282 : Fvy32 27 = F 27 := ((hFvy32 27 (by decide)).trans ((hFvy28 27 (by decide)).trans (fn rfl (by decide))))
            have hkpy283 : Fvy32 29 = F 29 := ((hFvy32 29 (by decide)).trans ((hFvy28 29 (by decide)).trans (fn rfl (by decide))))
            exact z_iret C hr hlk dX10_layer_126 (by decide) (by decide) ⟨vy246, rfl, rfl, rfl, by omega, ⟨_, _, hMy268, ⟨hkpy269, hkpy270, hkpy271, hkpy272, hkpy273, hkpy274, hkpy275, hkpy276, hkpy277, hkpy278, hkpy279⟩, ⟨(hkpy280.trans hp25), (hkpy281.trans hp26), (hkpy282.trans hp27), (hkpy283.trans hp29)⟩, (fun j _ => rfl)⟩, fun j j1 => by rw [hfvy32 _ (by omega)]; rw [hfvy28 _ (by omega)]; rw [egy25, va_up_ne _ _ (by omega)]⟩
      · refine z_if_ne (tgt := 31) C dX10_layer_26 (by decide) (by omega) (fun h => absurd h (by omega)) (fun _ => ?_)
        refine z_iconst (z := 0) C dX10_layer_29 rfl ?_
        have hgy284 := (hfvy28 (i + 1) (ne_o (i := i) (c := 1) (d := 0) rfl)).trans hgy27
        have hgy285 := (hfvy32 (i + 1) (ne_o (i := i) (c := 1) (d := 0) rfl)).trans hgy284
        have hFy286 : ∀ f, f ≠ 12 → Fvy32 f = F f := fun f n12 => ((hFvy32 f n12).trans ((hFvy28 f n12).trans ((uZ_n _ _ n12).trans rfl)))
        have hey287 : Fvy32 13 = F 13 := ((hFvy32 13 (by decide)).trans ((hFvy28 13 (by decide)).trans (fn rfl (by decide))))
        have hey288 : Fvy32 14 = F 14 := ((hFvy32 14 (by decide)).trans ((hFvy28 14 (by decide)).trans (fn rfl (by decide))))
        have hey289 : Fvy32 15 = F 15 := ((hFvy32 15 (by decide)).trans ((hFvy28 15 (by decide)).trans (fn rfl (by decide))))
        have hey290 : Fvy32 16 = F 16 := ((hFvy32 16 (by decide)).trans ((hFvy28 16 (by decide)).trans (fn rfl (by decide))))
        have hey291 : Fvy32 17 = F 17 := ((hFvy32 17 (by decide)).trans ((hFvy28 17 (by decide)).trans (fn rfl (by decide))))
        have hey292 : Fvy32 18 = F 18 := ((hFvy32 18 (by decide)).trans ((hFvy28 18 (by decide)).trans (fn rfl (by decide))))
        have hey293 : Fvy32 19 = F 19 := ((hFvy32 19 (by decide)).trans ((hFvy28 19 (by decide)).trans (fn rfl (by decide))))
        have hey294 : Fvy32 20 = F 20 := ((hFvy32 20 (by decide)).trans ((hFvy28 20 (by decide)).trans (fn rfl (by decide))))
        have hey295 : Fvy32 21 = F 21 := ((hFvy32 21 (by decide)).trans ((hFvy28 21 (by decide)).trans (fn rfl (by decide))))
        have hey296 : Fvy32 23 = F 23 := ((hFvy32 23 (by decide)).trans ((hFvy28 23 (by decide)).trans (fn rfl (by decide))))
        have hey297 : Fvy32 25 = F 25 := ((hFvy32 25 (by decide)).trans ((hFvy28 25 (by decide)).trans (fn rfl (by decide))))
        have hey298 : Fvy32 27 = F 27 := ((hFvy32 27 (by decide)).trans ((hFvy28 27 (by decide)).trans (fn rfl (by decide))))
        have hey299 : Fvy32 28 = F 28 := ((hFvy32 28 (by decide)).trans ((hFvy28 28 (by decide)).trans (fn rfl (by decide))))
        have hey300 : Fvy32 29 = F 29 := ((hFvy32 29 (by decide)).trans ((hFvy28 29 (by decide)).trans (fn rfl (by decide))))
        have hKy301 : okF Fvy32 := okF.mv hM.2.1 hey287 hey288 hey289 hey290 hey291 hey292 hey293 hey294 hey295 hey296 hey297 hey298 hey299 hey300
        have hMy302 : okMr cs ad gvy32 i (x + 1) Fvy32 r st op ai fa mu tb tp := okMr.upd hM hcvy32 hKy301 (fun f a => hFy286 f (by omega)) hgy285 (hA.mono (by omega)) (fun j a b => by
            exact Or.inl (by rw [hfvy32 _ (by omega)]; rw [hfvy28 _ (by omega)]; rw [egy25, va_up_ne _ _ (by omega)]))
        have hkpy303 : Fvy32 13 = F 13 := ((hFvy32 13 (by decide)).trans ((hFvy28 13 (by decide)).trans (fn rfl (by decide))))
        have hkpy304 : Fvy32 14 = F 14 := ((hFvy32 14 (by decide)).trans ((hFvy28 14 (by decide)).trans (fn rfl (by decide))))
        have hkpy305 : Fvy32 15 = F 15 := ((hFvy32 15 (by decide)).trans ((hFvy28 15 (by decide)).trans (fn rfl (by decide))))
        have hkpy306 : Fvy32 16 = F 16 := ((hFvy32 16 (by decide)).trans ((hFvy28 16 (by decide)).trans (fn rfl (by decide))))
        have hkpy307 : Fvy32 17 = F 17 := ((hFvy32 17 (by decide)).trans ((hFvy28 17 (by decide)).trans (fn rfl (by decide))))
        have hkpy308 : Fvy32 18 = F 18 := ((hFvy32 18 (by decide)).trans ((hFvy28 18 (by decide)).trans (fn rfl (by decide))))
        have hkpy309 : Fvy32 19 = F 19 := ((hFvy32 19 (by decide)).trans ((hFvy28 19 (by decide)).trans (fn rfl (by decide))))
        have hkpy310 : Fvy32 20 = F 20 := ((hFvy32 20 (by decide)).trans ((hFvy28 20 (by decide)).trans (fn rfl (by decide))))
        have hkpy311 : Fvy32 21 = F 21 := ((hFvy32 21 (by decide)).trans ((hFvy28 21 (by decide)).trans (fn rfl (by decide))))
        have hkpy312 : Fvy32 23 = F 23 := ((hFvy32 23 (by decide)).trans ((hFvy28 23 (by decide)).trans (fn rfl (by decide))))
        have hkpy313 : Fvy32 24 = F 24 := ((hFvy32 24 (by decide)).trans ((hFvy28 24 (by decide)).trans (fn rfl (by decide))))
        have hkpy314 : Fvy32 25 = F 25 := ((hFvy32 25 (by decide)).trans ((hFvy28 25 (by decide)).trans (fn rfl (by decide))))
        have hkpy315 : Fvy32 26 = F 26 := ((hFvy32 26 (by decide)).trans ((hFvy28 26 (by decide)).trans (fn rfl (by decide))))
        have hkpy316 : Fvy32 27 = F 27 := ((hFvy32 27 (by decide)).trans ((hFvy28 27 (by decide)).trans (fn rfl (by decide))))
        have hkpy317 : Fvy32 29 = F 29 := ((hFvy32 29 (by decide)).trans ((hFvy28 29 (by decide)).trans (fn rfl (by decide))))
        exact z_iret C hr hlk dX10_layer_30 (by decide) (by decide) ⟨0, rfl, rfl, rfl, by omega, ⟨_, _, hMy302, ⟨hkpy303, hkpy304, hkpy305, hkpy306, hkpy307, hkpy308, hkpy309, hkpy310, hkpy311, hkpy312, hkpy313⟩, ⟨(hkpy314.trans hp25), (hkpy315.trans hp26), (hkpy316.trans hp27), (hkpy317.trans hp29)⟩, (fun j _ => rfl)⟩, fun j j1 => by rw [hfvy32 _ (by omega)]; rw [hfvy28 _ (by omega)]; rw [egy25, va_up_ne _ _ (by omega)]⟩
    · refine z_iconst (z := 1) C dX10_layer_22 rfl ?_
      have hey319 : Fvy28 12 = Fvy28 12 := rfl
      refine z_cV (As := [.int (zI (0)), .int (zI (1))]) (rest := []) (ci := 12) C (c_X10_right l D A cs tt N ad _ i hN _ hcvy28 (by omega) (0) (by omega) (1) (by omega)) (lt_A0 hN rfl) hay1 hcvy28 rfl rfl mv_yX10_right q_1648 hd_yX10_right (by decide) (Nat.le_of_ble_eq_true rfl) (by decide) dX10_layer_23 rfl (kI0 fun vy318 gvy318 hvy318 => ?_)
      obtain ⟨hrvy318, ⟨Fvy318, hcvy318, htvy318, hFvy318⟩, hfvy318⟩ := hvy318
      obtain rfl : vy318 = 0 := by omega
      refine z_if_ne (tgt := 31) C dX10_layer_26 (by decide) (by omega) (fun h => absurd h (by omega)) (fun _ => ?_)
      refine z_iconst (z := 0) C dX10_layer_29 rfl ?_
      have hgy320 := (hfvy28 (i + 1) (ne_o (i := i) (c := 1) (d := 0) rfl)).trans hgy27
      have hgy321 := (hfvy318 (i + 1) (ne_o (i := i) (c := 1) (d := 0) rfl)).trans hgy320
      have hFy322 : ∀ f, f ≠ 12 → Fvy318 f = F f := fun f n12 => ((hFvy318 f n12).trans ((hFvy28 f n12).trans ((uZ_n _ _ n12).trans rfl)))
      have hey323 : Fvy318 13 = F 13 := ((hFvy318 13 (by decide)).trans ((hFvy28 13 (by decide)).trans (fn rfl (by decide))))
      have hey324 : Fvy318 14 = F 14 := ((hFvy318 14 (by decide)).trans ((hFvy28 14 (by decide)).trans (fn rfl (by decide))))
      have hey325 : Fvy318 15 = F 15 := ((hFvy318 15 (by decide)).trans ((hFvy28 15 (by decide)).trans (fn rfl (by decide))))
      have hey326 : Fvy318 16 = F 16 := ((hFvy318 16 (by decide)).trans ((hFvy28 16 (by decide)).trans (fn rfl (by decide))))
      have hey327 : Fvy318 17 = F 17 := ((hFvy318 17 (by decide)).trans ((hFvy28 17 (by decide)).trans (fn rfl (by decide))))
      have hey328 : Fvy318 18 = F 18 := ((hFvy318 18 (by decide)).trans ((hFvy28 18 (by decide)).trans (fn rfl (by decide))))
      have hey329 : Fvy318 19 = F 19 := ((hFvy318 19 (by decide)).trans ((hFvy28 19 (by decide)).trans (fn rfl (by decide))))
      have hey330 : Fvy318 20 = F 20 := ((hFvy318 20 (by decide)).trans ((hFvy28 20 (by decide)).trans (fn rfl (by decide))))
      have hey331 : Fvy318 21 = F 21 := ((hFvy318 21 (by decide)).trans ((hFvy28 21 (by decide)).trans (fn rfl (by decide))))
      have hey332 : Fvy318 23 = F 23 := ((hFvy318 23 (by decide)).trans ((hFvy28 23 (by decide)).trans (fn rfl (by decide))))
      have hey333 : Fvy318 25 = F 25 := ((hFvy318 25 (by decide)).trans ((hFvy28 25 (by decide)).trans (fn rfl (by decide))))
      have hey334 : Fvy318 27 = F 27 := ((hFvy318 27 (by decide)).trans ((hFvy28 27 (by decide)).trans (fn rfl (by decide))))
      have hey335 : Fvy318 28 = F 28 := ((hFvy318 28 (by decide)).trans ((hFvy28 28 (by decide)).trans (fn rfl (by decide))))
      have hey336 : Fvy318 29 = F 29 := ((hFvy318 29 (by decide)).trans ((hFvy28 29 (by decide)).trans (fn rfl (by decide))))
      have hKy337 : okF Fvy318 := okF.mv hM.2.1 hey323 hey324 hey325 hey326 hey327 hey328 hey329 hey330 hey331 hey332 hey333 hey334 hey335 hey336
      have hMy338 : okMr cs ad gvy318 i (x + 1) Fvy318 r st op ai fa mu tb tp := okMr.upd hM hcvy318 hKy337 (fun f a => hFy322 f (by omega)) hgy321 (hA.mono (by omega)) (fun j a b => by
          exact Or.inl (by rw [hfvy318 _ (by omega)]; rw [hfvy28 _ (by omega)]; rw [egy25, va_up_ne _ _ (by omega)]))
      have hkpy339 : Fvy318 13 = F 13 := ((hFvy318 13 (by decide)).trans ((hFvy28 13 (by decide)).trans (fn rfl (by decide))))
      have hkpy340 : Fvy318 14 = F 14 := ((hFvy318 14 (by decide)).trans ((hFvy28 14 (by decide)).trans (fn rfl (by decide))))
      have hkpy341 : Fvy318 15 = F 15 := ((hFvy318 15 (by decide)).trans ((hFvy28 15 (by decide)).trans (fn rfl (by decide))))
      have hkpy342 : Fvy318 16 = F 16 := ((hFvy318 16 (by decide)).trans ((hFvy28 16 (by decide)).trans (fn rfl (by decide))))
      have hkpy343 : Fvy318 17 = F 17 := ((hFvy318 17 (by decide)).trans ((hFvy28 17 (by decide)).trans (fn rfl (by decide))))
      have hkpy344 : Fvy318 18 = F 18 := ((hFvy318 18 (by decide)).trans ((hFvy28 18 (by decide)).trans (fn rfl (by decide))))
      have hkpy345 : Fvy318 19 = F 19 := ((hFvy318 19 (by decide)).trans ((hFvy28 19 (by decide)).trans (fn rfl (by decide))))
      have hkpy346 : Fvy318 20 = F 20 := ((hFvy318 20 (by decide)).trans ((hFvy28 20 (by decide)).trans (fn rfl (by decide))))
      have hkpy347 : Fvy318 21 = F 21 := ((hFvy318 21 (by decide)).trans ((hFvy28 21 (by decide)).trans (fn rfl (by decide))))
      have hkpy348 : Fvy318 23 = F 23 := ((hFvy318 23 (by decide)).trans ((hFvy28 23 (by decide)).trans (fn rfl (by decide))))
      have hkpy349 : Fvy318 24 = F 24 := ((hFvy318 24 (by decide)).trans ((hFvy28 24 (by decide)).trans (fn rfl (by decide))))
      have hkpy350 : Fvy318 25 = F 25 := ((hFvy318 25 (by decide)).trans ((hFvy28 25 (by decide)).trans (fn rfl (by decide))))
      have hkpy351 : Fvy318 26 = F 26 := ((hFvy318 26 (by decide)).trans ((hFvy28 26 (by decide)).trans (fn rfl (by decide))))
      have hkpy352 : Fvy318 27 = F 27 := ((hFvy318 27 (by decide)).trans ((hFvy28 27 (by decide)).trans (fn rfl (by decide))))
      have hkpy353 : Fvy318 29 = F 29 := ((hFvy318 29 (by decide)).trans ((hFvy28 29 (by decide)).trans (fn rfl (by decide))))
      exact z_iret C hr hlk dX10_layer_30 (by decide) (by decide) ⟨0, rfl, rfl, rfl, by omega, ⟨_, _, hMy338, ⟨hkpy339, hkpy340, hkpy341, hkpy342, hkpy343, hkpy344, hkpy345, hkpy346, hkpy347, hkpy348, hkpy349⟩, ⟨(hkpy350.trans hp25), (hkpy351.trans hp26), (hkpy352.trans hp27), (hkpy353.trans hp29)⟩, (fun j _ => rfl)⟩, fun j j1 => by rw [hfvy318 _ (by omega)]; rw [hfvy28 _ (by omega)]; rw [egy25, va_up_ne _ _ (by omega)]⟩
  · refine z_if_eq (tgt := 29) C dX10_layer_11 (by decide) (by omega) (fun _ => ?_) (fun h => absurd h (by omega))
    refine z_iconst (z := 0) C dX10_layer_29 rfl ?_
    have hgy354 := (hfvy28 (i + 1) (ne_o (i := i) (c := 1) (d := 0) rfl)).trans hgy27
    have hFy355 : ∀ f, f ≠ 12 → Fvy28 f = F f := fun f n12 => ((hFvy28 f n12).trans ((uZ_n _ _ n12).trans rfl))
    have hey356 : Fvy28 13 = F 13 := ((hFvy28 13 (by decide)).trans (fn rfl (by decide)))
    have hey357 : Fvy28 14 = F 14 := ((hFvy28 14 (by decide)).trans (fn rfl (by decide)))
    have hey358 : Fvy28 15 = F 15 := ((hFvy28 15 (by decide)).trans (fn rfl (by decide)))
    have hey359 : Fvy28 16 = F 16 := ((hFvy28 16 (by decide)).trans (fn rfl (by decide)))
    have hey360 : Fvy28 17 = F 17 := ((hFvy28 17 (by decide)).trans (fn rfl (by decide)))
    have hey361 : Fvy28 18 = F 18 := ((hFvy28 18 (by decide)).trans (fn rfl (by decide)))
    have hey362 : Fvy28 19 = F 19 := ((hFvy28 19 (by decide)).trans (fn rfl (by decide)))
    have hey363 : Fvy28 20 = F 20 := ((hFvy28 20 (by decide)).trans (fn rfl (by decide)))
    have hey364 : Fvy28 21 = F 21 := ((hFvy28 21 (by decide)).trans (fn rfl (by decide)))
    have hey365 : Fvy28 23 = F 23 := ((hFvy28 23 (by decide)).trans (fn rfl (by decide)))
    have hey366 : Fvy28 25 = F 25 := ((hFvy28 25 (by decide)).trans (fn rfl (by decide)))
    have hey367 : Fvy28 27 = F 27 := ((hFvy28 27 (by decide)).trans (fn rfl (by decide)))
    have hey368 : Fvy28 28 = F 28 := ((hFvy28 28 (by decide)).trans (fn rfl (by decide)))
    have hey369 : Fvy28 29 = F 29 := ((hFvy28 29 (by decide)).trans (fn rfl (by decide)))
    have hKy370 : okF Fvy28 := okF.mv hM.2.1 hey356 hey357 hey358 hey359 hey360 hey361 hey362 hey363 hey364 hey365 hey366 hey367 hey368 hey369
    have hMy371 : okMr cs ad gvy28 i (x + 1) Fvy28 r st op ai fa mu tb tp := okMr.upd hM hcvy28 hKy370 (fun f a => hFy355 f (by omega)) hgy354 (hA.mono (by omega)) (fun j a b => by
        exact Or.inl (by rw [hfvy28 _ (by omega)]; rw [egy25, va_up_ne _ _ (by omega)]))
    have hkpy372 : Fvy28 13 = F 13 := ((hFvy28 13 (by decide)).trans (fn rfl (by decide)))
    have hkpy373 : Fvy28 14 = F 14 := ((hFvy28 14 (by decide)).trans (fn rfl (by decide)))
    have hkpy374 : Fvy28 15 = F 15 := ((hFvy28 15 (by decide)).trans (fn rfl (by decide)))
    have hkpy375 : Fvy28 16 = F 16 := ((hFvy28 16 (by decide)).trans (fn rfl (by decide)))
    have hkpy376 : Fvy28 17 = F 17 := ((hFvy28 17 (by decide)).trans (fn rfl (by decide)))
    have hkpy377 : Fvy28 18 = F 18 := ((hFvy28 18 (by decide)).trans (fn rfl (by decide)))
    have hkpy378 : Fvy28 19 = F 19 := ((hFvy28 19 (by decide)).trans (fn rfl (by decide)))
    have hkpy379 : Fvy28 20 = F 20 := ((hFvy28 20 (by decide)).trans (fn rfl (by decide)))
    have hkpy380 : Fvy28 21 = F 21 := ((hFvy28 21 (by decide)).trans (fn rfl (by decide)))
    have hkpy381 : Fvy28 23 = F 23 := ((hFvy28 23 (by decide)).trans (fn rfl (by decide)))
    have hkpy382 : Fvy28 24 = F 24 := ((hFvy28 24 (by decide)).trans (fn rfl (by decide)))
    have hkpy383 : Fvy28 25 = F 25 := ((hFvy28 25 (by decide)).trans (fn rfl (by decide)))
    have hkpy384 : Fvy28 26 = F 26 := ((hFvy28 26 (by decide)).trans (fn rfl (by decide)))
    have hkpy385 : Fvy28 27 = F 27 := ((hFvy28 27 (by decide)).trans (fn rfl (by decide)))
    have hkpy386 : Fvy28 29 = F 29 := ((hFvy28 29 (by decide)).trans (fn rfl (by decide)))
    exact z_iret C hr hlk dX10_layer_30 (by decide) (by decide) ⟨0, rfl, rfl, rfl, by omega, ⟨_, _, hMy371, ⟨hkpy372, hkpy373, hkpy374, hkpy375, hkpy376, hkpy377, hkpy378, hkpy379, hkpy380, hkpy381, hkpy382⟩, ⟨(hkpy383.trans hp25), (hkpy384.trans hp26), (hkpy385.trans hp27), (hkpy386.trans hp29)⟩, (fun j _ => rfl)⟩, fun j j1 => by rw [hfvy28 _ (by omega)]; rw [egy25, va_up_ne _ _ (by omega)]⟩

set_option maxRecDepth 100000 in
set_option maxHeartbeats 4000000 in
theorem c_X10_layer_b (l : Launch) (D : va_G) (A : Nat → Prop) (cs : Nat → ClassId) (tt : Nat) (N : Nat) (ad : Nat → Nat) (g : Nat → va_E) (i : Nat) (hN : i + 30 ≤ N) (x : Int) (hx : 0 ≤ x ∧ x ≤ 512) (F r : Nat → Int) {st op ai fa mu tb tp : Nat → Int} (hM : okMr cs ad g i x F r st op ai fa mu tb tp) (hPl : F 25 = 0 ∧ F 26 = -1 ∧ F 27 = -1 ∧ F 29 = 0) (z : Int) (hz : -2147483648 ≤ z ∧ z ≤ 2147483647) (hzo : z < 0 ∨ 3 < z) (z1 : Int) (hz1 : -2147483648 ≤ z1 ∧ z1 ≤ 2147483647) (z2 : Int) (hz2 : -2147483648 ≤ z2 ∧ z2 ≤ 2147483647) : zM l yX10_layer cX10_layer 4 (some .int) ({ frames := 7, cells := 0, slots := 0, locals := 420 } : Room) D A cs tt N ad g [.ref (ad i), .int (zI (z)), .int (zI (z1)), .int (zI (z2))] (rI0 N ad fun q g' => (-2147483648 ≤ q ∧ q ≤ 2147483647) ∧ (∃ F' r' : Nat → Int, okMr cs ad g' i (x + 1) F' r' st op ai fa mu tb tp ∧ (F' 13 = F 13 ∧ F' 14 = F 14 ∧ F' 15 = F 15 ∧ F' 16 = F 16 ∧ F' 17 = F 17 ∧ F' 18 = F 18 ∧ F' 19 = F 19 ∧ F' 20 = F 20 ∧ F' 21 = F 21 ∧ F' 23 = F 23 ∧ F' 24 = F 24) ∧ (F' 25 = 0 ∧ F' 26 = -1 ∧ F' 27 = -1 ∧ F' 29 = 0) ∧ (∀ j, j < 350 ∨ 700 ≤ j → r' j = r j)) ∧ ∀ j, j < i ∨ i + 30 ≤ j ∨ (i + 8 ≤ j ∧ j ≤ i + 12) → g' j = g j) := by
  obtain ⟨hg, ⟨⟨e13, e14, e25, e27, e29⟩, k15, k16, k17, k18, k19, k20, k23, k21⟩, hRD, hTx, hA, ns, nh, nd, rf, pi, te, ki, li, ok1, ok2, fo, dd, dps, ⟨ha1, ha2, ha3, ha4, ha5, ha6, ha7, ha8, ha9, ha10, ha11, ha12, ha13, ha14, ha15, ha24, ha25, ha26, ha27, ha28, ha29⟩, hEv, hPt, hns, htp⟩ := id hM
  obtain ⟨-, hop, hai, hfa, hT, hT1⟩ := id hEv
  have hay1 : zAt ad (i) (ad i) := rfl
  have hay2 : zAt ad (i + 1) (ad (i + 1)) := rfl
  have hay3 : zAt ad (i + 2) (ad (i + 2)) := rfl
  have hay4 : zAt ad (i + 3) (ad (i + 3)) := rfl
  have hay5 : zAt ad (i + 4) (ad (i + 4)) := rfl
  have hay6 : zAt ad (i + 5) (ad (i + 5)) := rfl
  have hay7 : zAt ad (i + 6) (ad (i + 6)) := rfl
  have hay8 : zAt ad (i + 7) (ad (i + 7)) := rfl
  have hay9 : zAt ad (i + 8) (ad (i + 8)) := rfl
  have hay10 : zAt ad (i + 9) (ad (i + 9)) := rfl
  have hay11 : zAt ad (i + 10) (ad (i + 10)) := rfl
  have hay12 : zAt ad (i + 11) (ad (i + 11)) := rfl
  have hay13 : zAt ad (i + 12) (ad (i + 12)) := rfl
  have hay14 : zAt ad (i + 13) (ad (i + 13)) := rfl
  have hay15 : zAt ad (i + 14) (ad (i + 14)) := rfl
  have hay16 : zAt ad (i + 15) (ad (i + 15)) := rfl
  have hay17 : zAt ad (i + 24) (ad (i + 24)) := rfl
  have hay18 : zAt ad (i + 25) (ad (i + 25)) := rfl
  have hay19 : zAt ad (i + 26) (ad (i + 26)) := rfl
  have hay20 : zAt ad (i + 27) (ad (i + 27)) := rfl
  have hay21 : zAt ad (i + 28) (ad (i + 28)) := rfl
  have hay22 : zAt ad (i + 29) (ad (i + 29)) := rfl
  obtain ⟨⟨hsyy23, htyy23, hnyy23, hpyy23⟩, hlyy23⟩ := okA.at0 hA
  simp only [Nat.zero_add] at hsyy23 hnyy23 hpyy23
  have hmn : ∀ s, s < 4 → 0 ≤ r (6 + 86 * s) ∧ r (6 + 86 * s) ≤ 12 := fun s hs => (hsyy23 s hs).1
  have h5 : 0 ≤ r 5 ∧ r 5 ≤ 6 := hpyy23
  obtain ⟨hp25, hp26, hp27, hp29⟩ := id hPl
  refine z_of (by decide) (Nat.le_of_ble_eq_true rfl) ?_
  intro pZ eZ sZ mZ below meth cZ C hr hlk hnm
  refine z_lv (lv' := [(0, .ref (ad i)), (1, .int (zI (z))), (2, .int (zI (z1))), (3, .int (zI (z2)))]) [0, 1, 2, 3] rfl ?_
  refine z_aload_n C 0 dX10_layer_0 rfl ?_
  refine z_iconst (z := 0) C dX10_layer_1 rfl ?_
  refine z_put (fs' := mF ad (i) (uZ F 12 (0))) C (lt_A0 hN rfl) hay1 hg tyX10 tyX10_ok nmX10 rfl inA_X10 12 (by decide) q_1471 rfl rfl rfl rfl (Nat.le_of_ble_eq_true rfl) rfl dX10_layer_2 (fun gy24 egy25 => ?_)
  have hgy26 := up_s egy25
  refine z_aload_n C 0 dX10_layer_5 rfl ?_
  refine z_iload_n C 1 dX10_layer_6 rfl ?_
  refine z_iload_n C 2 dX10_layer_7 rfl ?_
  have hgy27 := up_n egy25 ha1 (ne_o (i := i) (c := 1) (d := 0) rfl)
  have h13vy28 : (uZ F 12 (0)) 13 = F 13 := (fn rfl (by decide))
  have hey29 : (uZ F 12 (0)) 12 = 0 := (uZ_s _ _ _)
  refine z_cV (As := [.int (zI (z)), .int (zI (z1))]) (rest := []) (ci := 12) C (c_X10_isLayer_b l D A cs tt N ad _ i hN _ hgy26 (by omega) (by omega) (z) (by omega) (by omega) (z1)) (lt_A0 hN rfl) hay1 hgy26 rfl rfl mv_yX10_isLayer q_1819 hd_yX10_isLayer (by decide) (Nat.le_of_ble_eq_true rfl) (by decide) dX10_layer_8 rfl (kI0 fun vy28 gvy28 hvy28 => ?_)
  obtain ⟨rfl, ⟨Fvy28, hcvy28, htvy28, hFvy28⟩, hfvy28⟩ := hvy28
  refine z_if_eq (tgt := 29) C dX10_layer_11 (by decide) (by omega) (fun _ => ?_) (fun h => absurd h (by omega))
  refine z_iconst (z := 0) C dX10_layer_29 rfl ?_
  have hgy30 := (hfvy28 (i + 1) (ne_o (i := i) (c := 1) (d := 0) rfl)).trans hgy27
  have hFy31 : ∀ f, f ≠ 12 → Fvy28 f = F f := fun f n12 => ((hFvy28 f n12).trans ((uZ_n _ _ n12).trans rfl))
  have hey32 : Fvy28 13 = F 13 := ((hFvy28 13 (by decide)).trans (fn rfl (by decide)))
  have hey33 : Fvy28 14 = F 14 := ((hFvy28 14 (by decide)).trans (fn rfl (by decide)))
  have hey34 : Fvy28 15 = F 15 := ((hFvy28 15 (by decide)).trans (fn rfl (by decide)))
  have hey35 : Fvy28 16 = F 16 := ((hFvy28 16 (by decide)).trans (fn rfl (by decide)))
  have hey36 : Fvy28 17 = F 17 := ((hFvy28 17 (by decide)).trans (fn rfl (by decide)))
  have hey37 : Fvy28 18 = F 18 := ((hFvy28 18 (by decide)).trans (fn rfl (by decide)))
  have hey38 : Fvy28 19 = F 19 := ((hFvy28 19 (by decide)).trans (fn rfl (by decide)))
  have hey39 : Fvy28 20 = F 20 := ((hFvy28 20 (by decide)).trans (fn rfl (by decide)))
  have hey40 : Fvy28 21 = F 21 := ((hFvy28 21 (by decide)).trans (fn rfl (by decide)))
  have hey41 : Fvy28 23 = F 23 := ((hFvy28 23 (by decide)).trans (fn rfl (by decide)))
  have hey42 : Fvy28 25 = F 25 := ((hFvy28 25 (by decide)).trans (fn rfl (by decide)))
  have hey43 : Fvy28 27 = F 27 := ((hFvy28 27 (by decide)).trans (fn rfl (by decide)))
  have hey44 : Fvy28 28 = F 28 := ((hFvy28 28 (by decide)).trans (fn rfl (by decide)))
  have hey45 : Fvy28 29 = F 29 := ((hFvy28 29 (by decide)).trans (fn rfl (by decide)))
  have hKy46 : okF Fvy28 := okF.mv hM.2.1 hey32 hey33 hey34 hey35 hey36 hey37 hey38 hey39 hey40 hey41 hey42 hey43 hey44 hey45
  have hMy47 : okMr cs ad gvy28 i (x + 1) Fvy28 r st op ai fa mu tb tp := okMr.upd hM hcvy28 hKy46 (fun f a => hFy31 f (by omega)) hgy30 (hA.mono (by omega)) (fun j a b => by
      exact Or.inl (by rw [hfvy28 _ (by omega)]; rw [egy25, va_up_ne _ _ (by omega)]))
  have hkpy48 : Fvy28 13 = F 13 := ((hFvy28 13 (by decide)).trans (fn rfl (by decide)))
  have hkpy49 : Fvy28 14 = F 14 := ((hFvy28 14 (by decide)).trans (fn rfl (by decide)))
  have hkpy50 : Fvy28 15 = F 15 := ((hFvy28 15 (by decide)).trans (fn rfl (by decide)))
  have hkpy51 : Fvy28 16 = F 16 := ((hFvy28 16 (by decide)).trans (fn rfl (by decide)))
  have hkpy52 : Fvy28 17 = F 17 := ((hFvy28 17 (by decide)).trans (fn rfl (by decide)))
  have hkpy53 : Fvy28 18 = F 18 := ((hFvy28 18 (by decide)).trans (fn rfl (by decide)))
  have hkpy54 : Fvy28 19 = F 19 := ((hFvy28 19 (by decide)).trans (fn rfl (by decide)))
  have hkpy55 : Fvy28 20 = F 20 := ((hFvy28 20 (by decide)).trans (fn rfl (by decide)))
  have hkpy56 : Fvy28 21 = F 21 := ((hFvy28 21 (by decide)).trans (fn rfl (by decide)))
  have hkpy57 : Fvy28 23 = F 23 := ((hFvy28 23 (by decide)).trans (fn rfl (by decide)))
  have hkpy58 : Fvy28 24 = F 24 := ((hFvy28 24 (by decide)).trans (fn rfl (by decide)))
  have hkpy59 : Fvy28 25 = F 25 := ((hFvy28 25 (by decide)).trans (fn rfl (by decide)))
  have hkpy60 : Fvy28 26 = F 26 := ((hFvy28 26 (by decide)).trans (fn rfl (by decide)))
  have hkpy61 : Fvy28 27 = F 27 := ((hFvy28 27 (by decide)).trans (fn rfl (by decide)))
  have hkpy62 : Fvy28 29 = F 29 := ((hFvy28 29 (by decide)).trans (fn rfl (by decide)))
  exact z_iret C hr hlk dX10_layer_30 (by decide) (by decide) ⟨0, rfl, rfl, rfl, by omega, ⟨_, _, hMy47, ⟨hkpy48, hkpy49, hkpy50, hkpy51, hkpy52, hkpy53, hkpy54, hkpy55, hkpy56, hkpy57, hkpy58⟩, ⟨(hkpy59.trans hp25), (hkpy60.trans hp26), (hkpy61.trans hp27), (hkpy62.trans hp29)⟩, (fun j _ => rfl)⟩, fun j j1 => by rw [hfvy28 _ (by omega)]; rw [egy25, va_up_ne _ _ (by omega)]⟩

set_option maxRecDepth 100000 in
set_option maxHeartbeats 4000000 in
theorem c_X10_layer (l : Launch) (D : va_G) (A : Nat → Prop) (cs : Nat → ClassId) (tt : Nat) (N : Nat) (ad : Nat → Nat) (g : Nat → va_E) (i : Nat) (hN : i + 30 ≤ N) (x : Int) (hx : 0 ≤ x ∧ x ≤ 512) (F r : Nat → Int) {st op ai fa mu tb tp : Nat → Int} (hM : okMr cs ad g i x F r st op ai fa mu tb tp) (hPl : F 25 = 0 ∧ F 26 = -1 ∧ F 27 = -1 ∧ F 29 = 0) (z : Int) (hz : -2147483648 ≤ z ∧ z ≤ 2147483647) (z1 : Int) (hz1 : -2147483648 ≤ z1 ∧ z1 ≤ 2147483647) (z2 : Int) (hz2 : -2147483648 ≤ z2 ∧ z2 ≤ 2147483647) : zM l yX10_layer cX10_layer 4 (some .int) ({ frames := 7, cells := 0, slots := 0, locals := 420 } : Room) D A cs tt N ad g [.ref (ad i), .int (zI (z)), .int (zI (z1)), .int (zI (z2))] (rI0 N ad fun q g' => (-2147483648 ≤ q ∧ q ≤ 2147483647) ∧ (∃ F' r' : Nat → Int, okMr cs ad g' i (x + 1) F' r' st op ai fa mu tb tp ∧ (F' 13 = F 13 ∧ F' 14 = F 14 ∧ F' 15 = F 15 ∧ F' 16 = F 16 ∧ F' 17 = F 17 ∧ F' 18 = F 18 ∧ F' 19 = F 19 ∧ F' 20 = F 20 ∧ F' 21 = F 21 ∧ F' 23 = F 23 ∧ F' 24 = F 24) ∧ (F' 25 = 0 ∧ F' 26 = -1 ∧ F' 27 = -1 ∧ F' 29 = 0) ∧ (∀ j, j < 350 ∨ 700 ≤ j → r' j = r j)) ∧ ∀ j, j < i ∨ i + 30 ≤ j ∨ (i + 8 ≤ j ∧ j ≤ i + 12) → g' j = g j) := by
  by_cases h9 : 0 ≤ z ∧ z ≤ 3
  · obtain ⟨n, rfl⟩ : ∃ n : Nat, z = (n : Int) := ⟨z.toNat, by omega⟩
    exact c_X10_layer_a l D A cs tt N ad g i hN x hx F r hM hPl n (by omega) z1 hz1 z2 hz2
  · exact c_X10_layer_b l D A cs tt N ad g i hN x hx F r hM hPl z hz (by omega) z1 hz1 z2 hz2

