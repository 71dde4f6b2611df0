def okF (F : Nat → Int) : Prop := ((0 ≤ F 13 ∧ F 13 ≤ 4) ∧ (0 ≤ F 14 ∧ F 14 ≤ 24) ∧ (0 ≤ F 25 ∧ F 25 ≤ 50) ∧ ((0 ≤ F 28 ∧ F 28 ≤ 50) ∧ (-1 ≤ F 27 ∧ F 27 ≤ 23) ∧ (F 27 = -1 ∨ 1 ≤ F 28)) ∧ (0 ≤ F 29 ∧ F 29 ≤ 1)) ∧ (0 ≤ F 15 ∧ F 15 ≤ 40) ∧ (0 ≤ F 16 ∧ F 16 ≤ 39) ∧ (0 ≤ F 17 ∧ F 17 ≤ 8) ∧ (0 ≤ F 18 ∧ F 18 ≤ 40) ∧ (0 ≤ F 19 ∧ F 19 ≤ 39) ∧ (0 ≤ F 20 ∧ F 20 ≤ 8) ∧ (0 ≤ F 23 ∧ F 23 ≤ 900) ∧ (0 ≤ F 21 ∧ F 21 ≤ 1)
/-- what the reader has told, without the TABLE (which each reading clears at its start) -/
def okTy (cs : Nat → ClassId) (g : Nat → va_E) (i : Nat) (F : Nat → Int) : Prop := ∃ st1 op1 mn1 ai1 fa1 mu1 tb1 ly1 : Nat → Int, (g (i + 16) = iA cs 4 st1 ∧ g (i + 17) = iA cs 4 op1 ∧ g (i + 18) = iA cs 4 mn1 ∧ g (i + 19) = iA cs 24 ai1 ∧ g (i + 20) = iA cs 24 fa1 ∧ g (i + 21) = iA cs 24 mu1 ∧ g (i + 22) = iA cs 15 tb1 ∧ g (i + 23) = iA cs 336 ly1) ∧ ((0 ≤ F 47 ∧ F 47 ≤ 4) ∧ (0 ≤ F 48 ∧ F 48 ≤ 24) ∧ (0 ≤ F 49 ∧ F 49 ≤ F 32)) ∧ (∀ k, k < 4 → 0 ≤ op1 k ∧ op1 k ≤ 20) ∧ (∀ k, k < 4 → 0 ≤ mn1 k ∧ mn1 k ≤ 12) ∧ (∀ k, k < 24 → -300 ≤ ai1 k ∧ ai1 k ≤ 100) ∧ (∀ k, k < 24 → (0 ≤ fa1 k ∧ fa1 k ≤ 3) ∧ (0 ≤ mu1 k ∧ mu1 k ≤ 50) ∧ (fa1 k = 1 ∨ fa1 k = 2 → 1 ≤ mu1 k)) ∧ (∀ s l : Nat, (s : Int) < F 47 → (l : Int) < mn1 s → lyT ly1 (84 * s + 7 * l))
theorem okTx.weak {cs : Nat → ClassId} {g : Nat → va_E} {i : Nat} {F : Nat → Int} (h : okTx cs g i F) : okTy cs g i F := by
  obtain ⟨st1, op1, mn1, ai1, fa1, mu1, tb1, ly1, h1, a1, a4, a5, a6, a7, a8, a9⟩ := h
  exact ⟨st1, op1, mn1, ai1, fa1, mu1, tb1, ly1, h1, a1, a4, a5, a6, a7, a9⟩
theorem okTy.mv {cs : Nat → ClassId} {g g' : Nat → va_E} {i : Nat} {F F' : Nat → Int} (h : okTy cs g i F) (hG : ∀ j, i + 16 ≤ j → j ≤ i + 23 → g' j = g j) (hF : F' 47 = F 47 ∧ F' 48 = F 48 ∧ F' 49 = F 49 ∧ F 32 ≤ F' 32) : okTy cs g' i F' := by
  obtain ⟨st1, op1, mn1, ai1, fa1, mu1, tb1, ly1, ⟨h1, h2, h3, h4, h5, h6, h7, h8⟩, ⟨a1, a2, a3⟩, a4, a5, a6, a7, a9⟩ := h
  obtain ⟨f1, f2, f3, f4⟩ := hF
  refine ⟨st1, op1, mn1, ai1, fa1, mu1, tb1, ly1, ⟨by rw [hG _ (by omega) (by omega)]; exact h1, by rw [hG _ (by omega) (by omega)]; exact h2, by rw [hG _ (by omega) (by omega)]; exact h3, by rw [hG _ (by omega) (by omega)]; exact h4, by rw [hG _ (by omega) (by omega)]; exact h5, by rw [hG _ (by omega) (by omega)]; exact h6, by rw [hG _ (by omega) (by omega)]; exact h7, by rw [hG _ (by omega) (by omega)]; exact h8⟩, ⟨by rw [f1]; exact a1, by rw [f2]; exact a2, by rw [f3]; omega⟩, a4, a5, a6, a7, fun s l h => a9 s l (by rw [f1] at h; exact h)⟩
/-- the reference between calls: its fields F, its rows r, what the TEXT told, its tape; x calls were -/
def okMr (cs : Nat → ClassId) (ad : Nat → Nat) (g : Nat → va_E) (i : Nat) (x : Int) (F r st op ai fa mu tb tp : Nat → Int) : Prop := g i = mC ad i F ∧ okF F ∧ RD F ∧ okTy cs g i F ∧ okA r x ∧ ∃ ns nh nd rf pi te ki li ok1 ok2 fo dd dps : Nat → Int, (g (i + 1) = iA cs 29200 r ∧ g (i + 2) = iA cs 4 st ∧ g (i + 3) = iA cs 4 op ∧ g (i + 4) = iA cs 24 ai ∧ g (i + 5) = iA cs 24 fa ∧ g (i + 6) = iA cs 24 mu ∧ g (i + 7) = iA cs 15 tb ∧ g (i + 8) = iA cs 16 ns ∧ g (i + 9) = iA cs 16 nh ∧ g (i + 10) = iA cs 16 nd ∧ g (i + 11) = iA cs 6 rf ∧ g (i + 12) = iA cs 1080 pi ∧ g (i + 13) = iA cs 900 tp ∧ g (i + 14) = iA cs 14 te ∧ g (i + 15) = iA cs 12 ki ∧ g (i + 24) = iA cs 64 li ∧ g (i + 25) = iA cs 12 ok1 ∧ g (i + 26) = iA cs 12 ok2 ∧ g (i + 27) = iA cs 169 fo ∧ g (i + 28) = iA cs 4 dd ∧ g (i + 29) = iA cs 4800 dps) ∧ okEnv F op ai fa mu tb ∧ okPt pi ∧ (∀ k, k < 16 → 0 ≤ ns k ∧ ns k ≤ 3) ∧ (∀ k, k < 900 → 0 ≤ tp k ∧ tp k ≤ 255)
/-- an array that may change, and how -/
def lsP (k : Nat) (t : Nat → Int) : Prop := (k = 9 ∨ k = 10 ∨ k = 11 ∨ k = 14 ∨ k = 15 ∨ (24 ≤ k ∧ k ≤ 29)) ∨ (k = 8 ∧ ∀ n, n < 16 → 0 ≤ t n ∧ t n ≤ 3) ∨ (k = 12 ∧ okPt t)
theorem lsP.l {k : Nat} {t : Nat → Int} (h : k = 9 ∨ k = 10 ∨ k = 11 ∨ k = 14 ∨ k = 15 ∨ (24 ≤ k ∧ k ≤ 29)) : lsP k t := Or.inl h
theorem okMr.arr {cs : Nat → ClassId} {g g' : Nat → va_E} {i n : Nat} (k : Nat) {P : (Nat → Int) → Prop} (h : ∃ t : Nat → Int, g (i + k) = iA cs n t ∧ P t) (hn : mLen k = n) (hG : g' (i + k) = g (i + k) ∨ ∃ (k2 : Nat) (t : Nat → Int), i + k = i + k2 ∧ lsP k2 t ∧ g' (i + k) = iA cs (mLen k2) t) (hP : ∀ t, lsP k t → P t) : ∃ t : Nat → Int, g' (i + k) = iA cs n t ∧ P t := by
  obtain ⟨t, h1, h2⟩ := h
  rcases hG with e | ⟨k2, t2, e1, e2, e3⟩
  · exact ⟨t, by rw [e]; exact h1, h2⟩
  · have e4 : k2 = k := by omega
    subst e4
    exact ⟨t2, by rw [e3, hn], hP t2 e2⟩

theorem okMr.upd {cs : Nat → ClassId} {ad : Nat → Nat} {g g' : Nat → va_E} {i : Nat} {x x' : Int} {F F' r r' st op ai fa mu tb tp : Nat → Int} (h : okMr cs ad g i x F r st op ai fa mu tb tp) (hi : g' i = mC ad i F') (hK : okF F') (hR : ∀ f, (32 ≤ f ∧ f ≤ 38) ∨ (47 ≤ f ∧ f ≤ 49) → F' f = F f) (hr : g' (i + 1) = iA cs 29200 r') (hA : okA r' x') (hG : ∀ j, i + 1 < j → j < i + 30 → g' j = g j ∨ ∃ (k : Nat) (t : Nat → Int), j = i + k ∧ lsP k t ∧ g' j = iA cs (mLen k) t) : okMr cs ad g' i x' F' r' st op ai fa mu tb tp := by
  obtain ⟨h1, h2, h3, h4, h5, ns, nh, nd, rf, pi, te, ki, li, ok1, ok2, fo, dd, dps, ⟨b1, b2, b3, b4, b5, b6, b7, b8, b9, b10, b11, b12, b13, b14, b15, b24, b25, b26, b27, b28, b29⟩, h6, h7, h8, h9⟩ := h
  have hT : ∀ j, i + 16 ≤ j → j ≤ i + 23 → g' j = g j := fun j a b => (hG j (by omega) (by omega)).elim (fun e => e) (fun ⟨k, t, e1, e2, e3⟩ => by
    exfalso
    unfold lsP at e2
    rcases e2 with e2 | ⟨e2, _⟩ | ⟨e2, _⟩ <;> omega)
  have hS : ∀ (k n : Nat) (t : Nat → Int), ((2 ≤ k ∧ k ≤ 7) ∨ k = 13) → g (i + k) = iA cs n t → g' (i + k) = iA cs n t := fun k n t a b => (hG (i + k) (by omega) (by omega)).elim (fun e => by rw [e]; exact b) (fun ⟨k2, t, e1, e2, e3⟩ => by
    exfalso
    unfold lsP at e2
    rcases e2 with e2 | ⟨e2, _⟩ | ⟨e2, _⟩ <;> omega)
  have hL : ∀ k, 1 < k → k < 30 → k ≠ 13 → g' (i + k) = g (i + k) ∨ ∃ (k2 : Nat) (t : Nat → Int), i + k = i + k2 ∧ lsP k2 t ∧ g' (i + k) = iA cs (mLen k2) t := fun k a b c => hG (i + k) (by omega) (by omega)
  have t1 : ∀ k, (k = 9 ∨ k = 10 ∨ k = 11 ∨ k = 14 ∨ k = 15 ∨ (24 ≤ k ∧ k ≤ 29)) → ∀ t : Nat → Int, g (i + k) = iA cs (mLen k) t → ∃ t2 : Nat → Int, g' (i + k) = iA cs (mLen k) t2 := fun k a t b => by
    obtain ⟨t2, e, _⟩ := okMr.arr (P := fun _ => True) k ⟨t, b, trivial⟩ rfl (hL k (by omega) (by omega) (by omega)) (fun _ _ => trivial)
    exact ⟨t2, e⟩
  obtain ⟨u9, v9⟩ := t1 9 (by omega) _ b9
  obtain ⟨u10, v10⟩ := t1 10 (by omega) _ b10
  obtain ⟨u11, v11⟩ := t1 11 (by omega) _ b11
  obtain ⟨u14, v14⟩ := t1 14 (by omega) _ b14
  obtain ⟨u15, v15⟩ := t1 15 (by omega) _ b15
  obtain ⟨u24, v24⟩ := t1 24 (by omega) _ b24
  obtain ⟨u25, v25⟩ := t1 25 (by omega) _ b25
  obtain ⟨u26, v26⟩ := t1 26 (by omega) _ b26
  obtain ⟨u27, v27⟩ := t1 27 (by omega) _ b27
  obtain ⟨u28, v28⟩ := t1 28 (by omega) _ b28
  obtain ⟨u29, v29⟩ := t1 29 (by omega) _ b29
  obtain ⟨u8, v8, w8⟩ := okMr.arr (P := fun t => ∀ k, k < 16 → 0 ≤ t k ∧ t k ≤ 3) 8 ⟨ns, b8, h8⟩ rfl (hL 8 (by omega) (by omega) (by omega)) (fun t e => by
    rcases e with e | ⟨_, e⟩ | ⟨e, _⟩
    · omega
    · exact e
    · omega)
  obtain ⟨u12, v12, w12⟩ := okMr.arr (P := okPt) 12 ⟨pi, b12, h7⟩ rfl (hL 12 (by omega) (by omega) (by omega)) (fun t e => by
    rcases e with e | ⟨e, _⟩ | ⟨_, e⟩
    · omega
    · omega
    · exact e)
  obtain ⟨_, c2, c3, c4, c5, c6⟩ := h6
  refine ⟨hi, hK, ?_, h4.mv (fun j a b => hT j a b) ⟨hR 47 (by omega), hR 48 (by omega), hR 49 (by omega), Int.le_of_eq (hR 32 (by omega)).symm⟩, hA, u8, u9, u10, u11, u12, u14, u15, u24, u25, u26, u27, u28, u29, ⟨hr, hS 2 _ _ (by omega) b2, hS 3 _ _ (by omega) b3, hS 4 _ _ (by omega) b4, hS 5 _ _ (by omega) b5, hS 6 _ _ (by omega) b6, hS 7 _ _ (by omega) b7, v8, v9, v10, v11, v12, hS 13 _ _ (by omega) b13, v14, v15, v24, v25, v26, v27, v28, v29⟩, ⟨hK.1, c2, c3, c4, c5, c6⟩, w12, w8, h9⟩
  unfold RD at *
  rw [hR 32 (by omega), hR 33 (by omega), hR 34 (by omega), hR 35 (by omega), hR 36 (by omega), hR 37 (by omega), hR 38 (by omega)]
  exact h3

theorem okMr.updT {cs : Nat → ClassId} {ad : Nat → Nat} {g g' : Nat → va_E} {i : Nat} {x x' : Int} {F F' r r' st op ai fa mu tb tp tp9 : Nat → Int} (h : okMr cs ad g i x F r st op ai fa mu tb tp) (hi : g' i = mC ad i F') (hK : okF F') (hR : ∀ f, (32 ≤ f ∧ f ≤ 38) ∨ (47 ≤ f ∧ f ≤ 49) → F' f = F f) (hr : g' (i + 1) = iA cs 29200 r') (hA : okA r' x') (hG : ∀ j, i + 1 < j → j < i + 30 → j ≠ i + 13 → g' j = g j ∨ ∃ (k : Nat) (t : Nat → Int), j = i + k ∧ lsP k t ∧ g' j = iA cs (mLen k) t) (ht9 : g' (i + 13) = iA cs 900 tp9) (hr9 : ∀ k, k < 900 → 0 ≤ tp9 k ∧ tp9 k ≤ 255) : okMr cs ad g' i x' F' r' st op ai fa mu tb tp9 := by
  obtain ⟨h1, h2, h3, h4, h5, ns, nh, nd, rf, pi, te, ki, li, ok1, ok2, fo, dd, dps, ⟨b1, b2, b3, b4, b5, b6, b7, b8, b9, b10, b11, b12, b13, b14, b15, b24, b25, b26, b27, b28, b29⟩, h6, h7, h8, h9⟩ := h
  have hT : ∀ j, i + 16 ≤ j → j ≤ i + 23 → g' j = g j := fun j a b => (hG j (by omega) (by omega) (by omega)).elim (fun e => e) (fun ⟨k, t, e1, e2, e3⟩ => by
    exfalso
    unfold lsP at e2
    rcases e2 with e2 | ⟨e2, _⟩ | ⟨e2, _⟩ <;> omega)
  have hS : ∀ (k n : Nat) (t : Nat → Int), ((2 ≤ k ∧ k ≤ 7)) → g (i + k) = iA cs n t → g' (i + k) = iA cs n t := fun k n t a b => (hG (i + k) (by omega) (by omega) (by omega)).elim (fun e => by rw [e]; exact b) (fun ⟨k2, t, e1, e2, e3⟩ => by
    exfalso
    unfold lsP at e2
    rcases e2 with e2 | ⟨e2, _⟩ | ⟨e2, _⟩ <;> omega)
  have hL : ∀ k, 1 < k → k < 30 → k ≠ 13 → g' (i + k) = g (i + k) ∨ ∃ (k2 : Nat) (t : Nat → Int), i + k = i + k2 ∧ lsP k2 t ∧ g' (i + k) = iA cs (mLen k2) t := fun k a b c => hG (i + k) (by omega) (by omega) (by omega)
  have t1 : ∀ k, (k = 9 ∨ k = 10 ∨ k = 11 ∨ k = 14 ∨ k = 15 ∨ (24 ≤ k ∧ k ≤ 29)) → ∀ t : Nat → Int, g (i + k) = iA cs (mLen k) t → ∃ t2 : Nat → Int, g' (i + k) = iA cs (mLen k) t2 := fun k a t b => by
    obtain ⟨t2, e, _⟩ := okMr.arr (P := fun _ => True) k ⟨t, b, trivial⟩ rfl (hL k (by omega) (by omega) (by omega)) (fun _ _ => trivial)
    exact ⟨t2, e⟩
  obtain ⟨u9, v9⟩ := t1 9 (by omega) _ b9
  obtain ⟨u10, v10⟩ := t1 10 (by omega) _ b10
  obtain ⟨u11, v11⟩ := t1 11 (by omega) _ b11
  obtain ⟨u14, v14⟩ := t1 14 (by omega) _ b14
  obtain ⟨u15, v15⟩ := t1 15 (by omega) _ b15
  obtain ⟨u24, v24⟩ := t1 24 (by omega) _ b24
  obtain ⟨u25, v25⟩ := t1 25 (by omega) _ b25
  obtain ⟨u26, v26⟩ := t1 26 (by omega) _ b26
  obtain ⟨u27, v27⟩ := t1 27 (by omega) _ b27
  obtain ⟨u28, v28⟩ := t1 28 (by omega) _ b28
  obtain ⟨u29, v29⟩ := t1 29 (by omega) _ b29
  obtain ⟨u8, v8, w8⟩ := okMr.arr (P := fun t => ∀ k, k < 16 → 0 ≤ t k ∧ t k ≤ 3) 8 ⟨ns, b8, h8⟩ rfl (hL 8 (by omega) (by omega) (by omega)) (fun t e => by
    rcases e with e | ⟨_, e⟩ | ⟨e, _⟩
    · omega
    · exact e
    · omega)
  obtain ⟨u12, v12, w12⟩ := okMr.arr (P := okPt) 12 ⟨pi, b12, h7⟩ rfl (hL 12 (by omega) (by omega) (by omega)) (fun t e => by
    rcases e with e | ⟨e, _⟩ | ⟨_, e⟩
    · omega
    · omega
    · exact e)
  obtain ⟨_, c2, c3, c4, c5, c6⟩ := h6
  refine ⟨hi, hK, ?_, h4.mv (fun j a b => hT j a b) ⟨hR 47 (by omega), hR 48 (by omega), hR 49 (by omega), Int.le_of_eq (hR 32 (by omega)).symm⟩, hA, u8, u9, u10, u11, u12, u14, u15, u24, u25, u26, u27, u28, u29, ⟨hr, hS 2 _ _ (by omega) b2, hS 3 _ _ (by omega) b3, hS 4 _ _ (by omega) b4, hS 5 _ _ (by omega) b5, hS 6 _ _ (by omega) b6, hS 7 _ _ (by omega) b7, v8, v9, v10, v11, v12, ht9, v14, v15, v24, v25, v26, v27, v28, v29⟩, ⟨hK.1, c2, c3, c4, c5, c6⟩, w12, w8, hr9⟩
  unfold RD at *
  rw [hR 32 (by omega), hR 33 (by omega), hR 34 (by omega), hR 35 (by omega), hR 36 (by omega), hR 37 (by omega), hR 38 (by omega)]
  exact h3

theorem okF.mv {F F' : Nat → Int} (h : okF F) (h13 : F' 13 = F 13) (h14 : F' 14 = F 14) (h15 : F' 15 = F 15) (h16 : F' 16 = F 16) (h17 : F' 17 = F 17) (h18 : F' 18 = F 18) (h19 : F' 19 = F 19) (h20 : F' 20 = F 20) (h21 : F' 21 = F 21) (h23 : F' 23 = F 23) (h25 : F' 25 = F 25) (h27 : F' 27 = F 27) (h28 : F' 28 = F 28) (h29 : F' 29 = F 29) : okF F' := by
  unfold okF at *
  rw [h13, h14, h15, h16, h17, h18, h19, h20, h21, h23, h25, h27, h28, h29]
  exact h

set_option maxRecDepth 100000 in
set_option maxHeartbeats 4000000 in
theorem c_X10_allLayers (l : Launch) (D : va_G) (A : Nat → Prop) (cs : Nat → ClassId) (tt : Nat) (N : Nat) (ad : Nat → Nat) (g : Nat → va_E) (i : Nat) (hN : i + 30 ≤ N) (x : Int) (hx : 0 ≤ x ∧ x ≤ 512) (F r : Nat → Int) {st op ai fa mu tb tp : Nat → Int} (hM : okMr cs ad g i x F r st op ai fa mu tb tp) : zM l yX10_allLayers cX10_allLayers 3 (some .int) ({ frames := 5, cells := 0, slots := 0, locals := 300 } : Room) D A cs tt N ad g [.ref (ad i)] (rI0 N ad fun r g' => (-2147483648 ≤ r ∧ r ≤ 2147483647) ∧ g = g') := by
  obtain ⟨hg, ⟨⟨e13, e14, e25, e27, e29⟩, k15, k16, k17, k18, k19, k20, k23, k21⟩, hRD, hTx, hA, ns, nh, nd, rf, pi, te, ki, li, ok1, ok2, fo, dd, dps, ⟨ha1, ha2, ha3, ha4, ha5, ha6, ha7, ha8, ha9, ha10, ha11, ha12, ha13, ha14, ha15, ha24, ha25, ha26, ha27, ha28, ha29⟩, hEv, hPt, hns, htp⟩ := id hM
  obtain ⟨-, hop, hai, hfa, hT, hT1⟩ := id hEv
  have hay1 : zAt ad (i) (ad i) := rfl
  have hay2 : zAt ad (i + 1) (ad (i + 1)) := rfl
  have hay3 : zAt ad (i + 2) (ad (i + 2)) := rfl
  have hay4 : zAt ad (i + 3) (ad (i + 3)) := rfl
  have hay5 : zAt ad (i + 4) (ad (i + 4)) := rfl
  have hay6 : zAt ad (i + 5) (ad (i + 5)) := rfl
  have hay7 : zAt ad (i + 6) (ad (i + 6)) := rfl
  have hay8 : zAt ad (i + 7) (ad (i + 7)) := rfl
  have hay9 : zAt ad (i + 8) (ad (i + 8)) := rfl
  have hay10 : zAt ad (i + 9) (ad (i + 9)) := rfl
  have hay11 : zAt ad (i + 10) (ad (i + 10)) := rfl
  have hay12 : zAt ad (i + 11) (ad (i + 11)) := rfl
  have hay13 : zAt ad (i + 12) (ad (i + 12)) := rfl
  have hay14 : zAt ad (i + 13) (ad (i + 13)) := rfl
  have hay15 : zAt ad (i + 14) (ad (i + 14)) := rfl
  have hay16 : zAt ad (i + 15) (ad (i + 15)) := rfl
  have hay17 : zAt ad (i + 24) (ad (i + 24)) := rfl
  have hay18 : zAt ad (i + 25) (ad (i + 25)) := rfl
  have hay19 : zAt ad (i + 26) (ad (i + 26)) := rfl
  have hay20 : zAt ad (i + 27) (ad (i + 27)) := rfl
  have hay21 : zAt ad (i + 28) (ad (i + 28)) := rfl
  have hay22 : zAt ad (i + 29) (ad (i + 29)) := rfl
  obtain ⟨⟨hsyy23, htyy23, hnyy23, hpyy23⟩, hlyy23⟩ := okA.at0 hA
  simp only [Nat.zero_add] at hsyy23 hnyy23 hpyy23
  have hmn : ∀ s, s < 4 → 0 ≤ r (6 + 86 * s) ∧ r (6 + 86 * s) ≤ 12 := fun s hs => (hsyy23 s hs).1
  have h5 : 0 ≤ r 5 ∧ r 5 ≤ 6 := hpyy23
  refine z_of (by decide) (Nat.le_of_ble_eq_true rfl) ?_
  intro pZ eZ sZ mZ below meth cZ C hr hlk hnm
  refine z_lv (lv' := [(0, .ref (ad i))]) [0] rfl ?_
  have lp : ∀ (n9 : Nat) (al : Int) (ss : Int) (g1 : Nat → va_E), (5 - ss).toNat = n9 → (g1 = g) → (-2147483648 ≤ al ∧ al ≤ 2147483647) → (0 ≤ ss ∧ ss ≤ F 13) → zV pZ l eZ ({ frames := 5, cells := 0, slots := 0, locals := 300 } : Room) sZ mZ ([.ref (ad i)] : List Value).toArray below meth cZ (MQ below (zPost D A (rI0 N ad fun r g' => (-2147483648 ≤ r ∧ r ≤ 2147483647) ∧ g = g')) ([.ref (ad i)] : List Value).toArray sZ ({ frames := 5, cells := 0, slots := 0, locals := 300 } : Room).cells ({ frames := 5, cells := 0, slots := 0, locals := 300 } : Room).slots A) D A 3 (N) ad g1 (0) (0) 4 [(0, .ref (ad i)), (1, .int (zI (al))), (2, .int (zI (ss)))] [] := by
    intro n9
    induction n9 using Nat.strongRecOn with
    | ind n9 ih =>
      intro al ss g1 hm9 hg1 hv0 hv1
      subst hg1
      refine z_iload_n C 2 dX10_allLayers_4 rfl ?_
      refine z_aload_n C 0 dX10_allLayers_5 rfl ?_
      refine z_get (v := .int (zI (F 13))) C (lt_A0 hN rfl) hay1 hg rfl inA_X10 13 (by decide) q_1472 rfl (fv (F := F) (f := 13) rfl) dX10_allLayers_6 ?_
      refine z_icmp_ge (tgt := 27) C dX10_allLayers_9 (by decide) (by omega) (by omega) (fun hby24 => ?_) (fun hby24 => ?_)
      · refine z_iload_n C 1 dX10_allLayers_27 rfl ?_
        exact z_iret C hr hlk dX10_allLayers_28 (by decide) (by decide) ⟨al, rfl, rfl, rfl, by omega, rfl⟩
      · refine z_iload_n C 1 dX10_allLayers_12 rfl ?_
        refine z_aload_n C 0 dX10_allLayers_13 rfl ?_
        refine z_iconst (z := 0) C dX10_allLayers_14 rfl ?_
        refine z_iload_n C 2 dX10_allLayers_15 rfl ?_
        obtain ⟨ny25, hny25⟩ : ∃ n9 : Nat, ss = (n9 : Int) := ⟨(ss).toNat, by omega⟩
        rw [hny25]
        obtain ⟨py26, hpy26⟩ : ∃ p9 : Nat, 0 + 6 + 86 * ny25 = p9 := ⟨_, rfl⟩
        have hmyy27 := ((okA.at0 hA).1.1 ny25 (by omega)).1
        rw [hpy26] at hmyy27
        refine z_cV (As := [.int (zI (0)), .int (zI ((ny25 : Int)))]) (rest := [.int (zI (al))]) (ci := 12) C (c_X10_many l D A cs tt N ad _ i hN _ hg _ ha1 0 ny25 py26 hpy26 (by omega) (by omega)) (lt_A0 hN rfl) hay1 hg rfl rfl mv_yX10_many q_1733 hd_yX10_many (by decide) (Nat.le_of_ble_eq_true rfl) (by decide) dX10_allLayers_16 rfl (kI0 fun vy28 gvy28 hvy28 => ?_)
        obtain ⟨rfl, rfl⟩ := hvy28
        refine z_iadd C dX10_allLayers_19 ?_
        refine z_istore_n (lv' := [(1, .int (zI (al + (r (py26))))), (0, .ref (ad i)), (2, .int (zI ((ny25 : Int))))]) C dX10_allLayers_20 rfl (by decide) rfl ?_
        refine z_iinc (z := (ny25 : Int) + 1) (lv' := [(2, .int (zI ((ny25 : Int) + 1))), (1, .int (zI (al + (r (py26))))), (0, .ref (ad i))]) (j := 2) C dX10_allLayers_21 rfl rfl (by decide) rfl ?_
        refine z_goto (tgt := 4) C dX10_allLayers_24 (by decide) ?_
        obtain ⟨xy29, exy30, hxy31⟩ := zI_of (zI (al + (r (py26))))
        rw [exy30]
        refine z_lv (lv' := [(0, .ref (ad i)), (1, .int (zI (xy29))), (2, .int (zI ((ny25 : Int) + 1)))]) [2, 1, 0] rfl ?_
        exact ih _ (by omega) (xy29) ((ny25 : Int) + 1) _ rfl rfl (by omega) (by omega)
  refine z_iconst (z := 0) C dX10_allLayers_0 rfl ?_
  refine z_istore_n (lv' := [(1, .int (zI (0))), (0, .ref (ad i))]) C dX10_allLayers_1 rfl (by decide) rfl ?_
  refine z_iconst (z := 0) C dX10_allLayers_2 rfl ?_
  refine z_istore_n (lv' := [(2, .int (zI (0))), (1, .int (zI (0))), (0, .ref (ad i))]) C dX10_allLayers_3 rfl (by decide) rfl ?_
  refine z_lv (lv' := [(0, .ref (ad i)), (1, .int (zI (0))), (2, .int (zI (0)))]) [2, 1, 0] rfl ?_
  exact lp _ (0) (0) _ rfl rfl (by omega) (by omega)

set_option maxRecDepth 100000 in
set_option maxHeartbeats 4000000 in
theorem c_X10_allWeight (l : Launch) (D : va_G) (A : Nat → Prop) (cs : Nat → ClassId) (tt : Nat) (N : Nat) (ad : Nat → Nat) (g : Nat → va_E) (i : Nat) (hN : i + 30 ≤ N) (x : Int) (hx : 0 ≤ x ∧ x ≤ 512) (F r : Nat → Int) {st op ai fa mu tb tp : Nat → Int} (hM : okMr cs ad g i x F r st op ai fa mu tb tp) : zM l yX10_allWeight cX10_allWeight 3 (some .int) ({ frames := 5, cells := 0, slots := 0, locals := 300 } : Room) D A cs tt N ad g [.ref (ad i)] (rI0 N ad fun r g' => (-2147483648 ≤ r ∧ r ≤ 2147483647) ∧ g = g') := by
  obtain ⟨hg, ⟨⟨e13, e14, e25, e27, e29⟩, k15, k16, k17, k18, k19, k20, k23, k21⟩, hRD, hTx, hA, ns, nh, nd, rf, pi, te, ki, li, ok1, ok2, fo, dd, dps, ⟨ha1, ha2, ha3, ha4, ha5, ha6, ha7, ha8, ha9, ha10, ha11, ha12, ha13, ha14, ha15, ha24, ha25, ha26, ha27, ha28, ha29⟩, hEv, hPt, hns, htp⟩ := id hM
  obtain ⟨-, hop, hai, hfa, hT, hT1⟩ := id hEv
  have hay1 : zAt ad (i) (ad i) := rfl
  have hay2 : zAt ad (i + 1) (ad (i + 1)) := rfl
  have hay3 : zAt ad (i + 2) (ad (i + 2)) := rfl
  have hay4 : zAt ad (i + 3) (ad (i + 3)) := rfl
  have hay5 : zAt ad (i + 4) (ad (i + 4)) := rfl
  have hay6 : zAt ad (i + 5) (ad (i + 5)) := rfl
  have hay7 : zAt ad (i + 6) (ad (i + 6)) := rfl
  have hay8 : zAt ad (i + 7) (ad (i + 7)) := rfl
  have hay9 : zAt ad (i + 8) (ad (i + 8)) := rfl
  have hay10 : zAt ad (i + 9) (ad (i + 9)) := rfl
  have hay11 : zAt ad (i + 10) (ad (i + 10)) := rfl
  have hay12 : zAt ad (i + 11) (ad (i + 11)) := rfl
  have hay13 : zAt ad (i + 12) (ad (i + 12)) := rfl
  have hay14 : zAt ad (i + 13) (ad (i + 13)) := rfl
  have hay15 : zAt ad (i + 14) (ad (i + 14)) := rfl
  have hay16 : zAt ad (i + 15) (ad (i + 15)) := rfl
  have hay17 : zAt ad (i + 24) (ad (i + 24)) := rfl
  have hay18 : zAt ad (i + 25) (ad (i + 25)) := rfl
  have hay19 : zAt ad (i + 26) (ad (i + 26)) := rfl
  have hay20 : zAt ad (i + 27) (ad (i + 27)) := rfl
  have hay21 : zAt ad (i + 28) (ad (i + 28)) := rfl
  have hay22 : zAt ad (i + 29) (ad (i + 29)) := rfl
  obtain ⟨⟨hsyy23, htyy23, hnyy23, hpyy23⟩, hlyy23⟩ := okA.at0 hA
  simp only [Nat.zero_add] at hsyy23 hnyy23 hpyy23
  have hmn : ∀ s, s < 4 → 0 ≤ r (6 + 86 * s) ∧ r (6 + 86 * s) ≤ 12 := fun s hs => (hsyy23 s hs).1
  have h5 : 0 ≤ r 5 ∧ r 5 ≤ 6 := hpyy23
  refine z_of (by decide) (Nat.le_of_ble_eq_true rfl) ?_
  intro pZ eZ sZ mZ below meth cZ C hr hlk hnm
  refine z_lv (lv' := [(0, .ref (ad i))]) [0] rfl ?_
  have lp : ∀ (n9 : Nat) (al : Int) (ss : Int) (g1 : Nat → va_E), (5 - ss).toNat = n9 → (g1 = g) → (-2147483648 ≤ al ∧ al ≤ 2147483647) → (0 ≤ ss ∧ ss ≤ F 13) → zV pZ l eZ ({ frames := 5, cells := 0, slots := 0, locals := 300 } : Room) sZ mZ ([.ref (ad i)] : List Value).toArray below meth cZ (MQ below (zPost D A (rI0 N ad fun r g' => (-2147483648 ≤ r ∧ r ≤ 2147483647) ∧ g = g')) ([.ref (ad i)] : List Value).toArray sZ ({ frames := 5, cells := 0, slots := 0, locals := 300 } : Room).cells ({ frames := 5, cells := 0, slots := 0, locals := 300 } : Room).slots A) D A 3 (N) ad g1 (0) (0) 4 [(0, .ref (ad i)), (1, .int (zI (al))), (2, .int (zI (ss)))] [] := by
    intro n9
    induction n9 using Nat.strongRecOn with
    | ind n9 ih =>
      intro al ss g1 hm9 hg1 hv0 hv1
      subst hg1
      refine z_iload_n C 2 dX10_allWeight_4 rfl ?_
      refine z_aload_n C 0 dX10_allWeight_5 rfl ?_
      refine z_get (v := .int (zI (F 13))) C (lt_A0 hN rfl) hay1 hg rfl inA_X10 13 (by decide) q_1472 rfl (fv (F := F) (f := 13) rfl) dX10_allWeight_6 ?_
      refine z_icmp_ge (tgt := 36) C dX10_allWeight_9 (by decide) (by omega) (by omega) (fun hby24 => ?_) (fun hby24 => ?_)
      · refine z_iload_n C 1 dX10_allWeight_36 rfl ?_
        exact z_iret C hr hlk dX10_allWeight_37 (by decide) (by decide) ⟨al, rfl, rfl, rfl, by omega, rfl⟩
      · refine z_iload_n C 1 dX10_allWeight_12 rfl ?_
        refine z_aload_n C 0 dX10_allWeight_13 rfl ?_
        refine z_iconst (z := 0) C dX10_allWeight_14 rfl ?_
        refine z_iload_n C 2 dX10_allWeight_15 rfl ?_
        refine z_iconst (z := 1) C dX10_allWeight_16 rfl ?_
        obtain ⟨ny25, hny25⟩ : ∃ n9 : Nat, ss = (n9 : Int) := ⟨(ss).toNat, by omega⟩
        rw [hny25]
        obtain ⟨py26, hpy26⟩ : ∃ p9 : Nat, 0 + 6 + 86 * ny25 = p9 := ⟨_, rfl⟩
        have hqy28 : qS r py26 := (((okA.at0 hA).1.1 ny25 (by omega)).of (p2 := py26) (by omega)).q (by have hb9 := mBb (t := r 0 + x) (by omega); omega)
        have hmky29 := hqy28.1
        refine z_cV (As := [.int (zI (0)), .int (zI ((ny25 : Int))), .int (zI (1))]) (rest := [.int (zI (al))]) (ci := 12) C (c_X10_sumA l D A cs tt N ad _ i hN _ hg _ ha1 0 ny25 py26 hpy26 (by omega) (by omega) hqy28 1 (by omega)) (lt_A0 hN rfl) hay1 hg rfl rfl mv_yX10_sum q_1745 hd_yX10_sum (by decide) (Nat.le_of_ble_eq_true rfl) (by decide) dX10_allWeight_17 rfl (kI0 fun vy27 gvy27 hvy27 => ?_)
        obtain ⟨hvy27, rfl⟩ := hvy27
        refine z_aload_n C 0 dX10_allWeight_20 rfl ?_
        refine z_iconst (z := 0) C dX10_allWeight_21 rfl ?_
        refine z_iload_n C 2 dX10_allWeight_22 rfl ?_
        refine z_iconst (z := 2) C dX10_allWeight_23 rfl ?_
        have hqy31 : qS r py26 := (((okA.at0 hA).1.1 ny25 (by omega)).of (p2 := py26) (by omega)).q (by have hb9 := mBb (t := r 0 + x) (by omega); omega)
        have hmky32 := hqy31.1
        refine z_cV (As := [.int (zI (0)), .int (zI ((ny25 : Int))), .int (zI (2))]) (rest := [.int (zI (vy27)), .int (zI (al))]) (ci := 12) C (c_X10_sumA l D A cs tt N ad _ i hN _ hg _ ha1 0 ny25 py26 hpy26 (by omega) (by omega) hqy31 2 (by omega)) (lt_A0 hN rfl) hay1 hg rfl rfl mv_yX10_sum q_1745 hd_yX10_sum (by decide) (Nat.le_of_ble_eq_true rfl) (by decide) dX10_allWeight_24 rfl (kI0 fun vy30 gvy30 hvy30 => ?_)
        obtain ⟨hvy30, rfl⟩ := hvy30
        refine z_iadd C dX10_allWeight_27 ?_
        refine z_iadd C dX10_allWeight_28 ?_
        refine z_istore_n (lv' := [(1, .int (zI (al + (vy27 + vy30)))), (0, .ref (ad i)), (2, .int (zI ((ny25 : Int))))]) C dX10_allWeight_29 rfl (by decide) rfl ?_
        refine z_iinc (z := (ny25 : Int) + 1) (lv' := [(2, .int (zI ((ny25 : Int) + 1))), (1, .int (zI (al + (vy27 + vy30)))), (0, .ref (ad i))]) (j := 2) C dX10_allWeight_30 rfl rfl (by decide) rfl ?_
        refine z_goto (tgt := 4) C dX10_allWeight_33 (by decide) ?_
        obtain ⟨xy33, exy34, hxy35⟩ := zI_of (zI (al + (vy27 + vy30)))
        rw [exy34]
        refine z_lv (lv' := [(0, .ref (ad i)), (1, .int (zI (xy33))), (2, .int (zI ((ny25 : Int) + 1)))]) [2, 1, 0] rfl ?_
        exact ih _ (by omega) (xy33) ((ny25 : Int) + 1) _ rfl rfl (by omega) (by omega)
  refine z_iconst (z := 0) C dX10_allWeight_0 rfl ?_
  refine z_istore_n (lv' := [(1, .int (zI (0))), (0, .ref (ad i))]) C dX10_allWeight_1 rfl (by decide) rfl ?_
  refine z_iconst (z := 0) C dX10_allWeight_2 rfl ?_
  refine z_istore_n (lv' := [(2, .int (zI (0))), (1, .int (zI (0))), (0, .ref (ad i))]) C dX10_allWeight_3 rfl (by decide) rfl ?_
  refine z_lv (lv' := [(0, .ref (ad i)), (1, .int (zI (0))), (2, .int (zI (0)))]) [2, 1, 0] rfl ?_
  exact lp _ (0) (0) _ rfl rfl (by omega) (by omega)

set_option maxRecDepth 100000 in
set_option maxHeartbeats 4000000 in
theorem c_X10_allRunoff (l : Launch) (D : va_G) (A : Nat → Prop) (cs : Nat → ClassId) (tt : Nat) (N : Nat) (ad : Nat → Nat) (g : Nat → va_E) (i : Nat) (hN : i + 30 ≤ N) (x : Int) (hx : 0 ≤ x ∧ x ≤ 512) (F r : Nat → Int) {st op ai fa mu tb tp : Nat → Int} (hM : okMr cs ad g i x F r st op ai fa mu tb tp) : zM l yX10_allRunoff cX10_allRunoff 3 (some .int) ({ frames := 2, cells := 0, slots := 0, locals := 120 } : Room) D A cs tt N ad g [.ref (ad i)] (rI0 N ad fun r g' => (-2147483648 ≤ r ∧ r ≤ 2147483647) ∧ g = g') := by
  obtain ⟨hg, ⟨⟨e13, e14, e25, e27, e29⟩, k15, k16, k17, k18, k19, k20, k23, k21⟩, hRD, hTx, hA, ns, nh, nd, rf, pi, te, ki, li, ok1, ok2, fo, dd, dps, ⟨ha1, ha2, ha3, ha4, ha5, ha6, ha7, ha8, ha9, ha10, ha11, ha12, ha13, ha14, ha15, ha24, ha25, ha26, ha27, ha28, ha29⟩, hEv, hPt, hns, htp⟩ := id hM
  obtain ⟨-, hop, hai, hfa, hT, hT1⟩ := id hEv
  have hay1 : zAt ad (i) (ad i) := rfl
  have hay2 : zAt ad (i + 1) (ad (i + 1)) := rfl
  have hay3 : zAt ad (i + 2) (ad (i + 2)) := rfl
  have hay4 : zAt ad (i + 3) (ad (i + 3)) := rfl
  have hay5 : zAt ad (i + 4) (ad (i + 4)) := rfl
  have hay6 : zAt ad (i + 5) (ad (i + 5)) := rfl
  have hay7 : zAt ad (i + 6) (ad (i + 6)) := rfl
  have hay8 : zAt ad (i + 7) (ad (i + 7)) := rfl
  have hay9 : zAt ad (i + 8) (ad (i + 8)) := rfl
  have hay10 : zAt ad (i + 9) (ad (i + 9)) := rfl
  have hay11 : zAt ad (i + 10) (ad (i + 10)) := rfl
  have hay12 : zAt ad (i + 11) (ad (i + 11)) := rfl
  have hay13 : zAt ad (i + 12) (ad (i + 12)) := rfl
  have hay14 : zAt ad (i + 13) (ad (i + 13)) := rfl
  have hay15 : zAt ad (i + 14) (ad (i + 14)) := rfl
  have hay16 : zAt ad (i + 15) (ad (i + 15)) := rfl
  have hay17 : zAt ad (i + 24) (ad (i + 24)) := rfl
  have hay18 : zAt ad (i + 25) (ad (i + 25)) := rfl
  have hay19 : zAt ad (i + 26) (ad (i + 26)) := rfl
  have hay20 : zAt ad (i + 27) (ad (i + 27)) := rfl
  have hay21 : zAt ad (i + 28) (ad (i + 28)) := rfl
  have hay22 : zAt ad (i + 29) (ad (i + 29)) := rfl
  obtain ⟨⟨hsyy23, htyy23, hnyy23, hpyy23⟩, hlyy23⟩ := okA.at0 hA
  simp only [Nat.zero_add] at hsyy23 hnyy23 hpyy23
  have hmn : ∀ s, s < 4 → 0 ≤ r (6 + 86 * s) ∧ r (6 + 86 * s) ≤ 12 := fun s hs => (hsyy23 s hs).1
  have h5 : 0 ≤ r 5 ∧ r 5 ≤ 6 := hpyy23
  refine z_of (by decide) (Nat.le_of_ble_eq_true rfl) ?_
  intro pZ eZ sZ mZ below meth cZ C hr hlk hnm
  refine z_lv (lv' := [(0, .ref (ad i))]) [0] rfl ?_
  have lp : ∀ (n9 : Nat) (al : Int) (ss : Int) (g1 : Nat → va_E), (5 - ss).toNat = n9 → (g1 = g) → (-2147483648 ≤ al ∧ al ≤ 2147483647) → (0 ≤ ss ∧ ss ≤ F 13) → zV pZ l eZ ({ frames := 2, cells := 0, slots := 0, locals := 120 } : Room) sZ mZ ([.ref (ad i)] : List Value).toArray below meth cZ (MQ below (zPost D A (rI0 N ad fun r g' => (-2147483648 ≤ r ∧ r ≤ 2147483647) ∧ g = g')) ([.ref (ad i)] : List Value).toArray sZ ({ frames := 2, cells := 0, slots := 0, locals := 120 } : Room).cells ({ frames := 2, cells := 0, slots := 0, locals := 120 } : Room).slots A) D A 3 (N) ad g1 (0) (0) 4 [(0, .ref (ad i)), (1, .int (zI (al))), (2, .int (zI (ss)))] [] := by
    intro n9
    induction n9 using Nat.strongRecOn with
    | ind n9 ih =>
      intro al ss g1 hm9 hg1 hv0 hv1
      subst hg1
      refine z_iload_n C 2 dX10_allRunoff_4 rfl ?_
      refine z_aload_n C 0 dX10_allRunoff_5 rfl ?_
      refine z_get (v := .int (zI (F 13))) C (lt_A0 hN rfl) hay1 hg rfl inA_X10 13 (by decide) q_1472 rfl (fv (F := F) (f := 13) rfl) dX10_allRunoff_6 ?_
      refine z_icmp_ge (tgt := 35) C dX10_allRunoff_9 (by decide) (by omega) (by omega) (fun hby24 => ?_) (fun hby24 => ?_)
      · refine z_iload_n C 1 dX10_allRunoff_35 rfl ?_
        exact z_iret C hr hlk dX10_allRunoff_36 (by decide) (by decide) ⟨al, rfl, rfl, rfl, by omega, rfl⟩
      · refine z_iload_n C 1 dX10_allRunoff_12 rfl ?_
        refine z_aload_n C 0 dX10_allRunoff_13 rfl ?_
        refine z_get (v := .ref (ad (i + 1))) C (lt_A0 hN rfl) hay1 hg rfl inA_X10 0 (by decide) q_1459 rfl rfl dX10_allRunoff_14 ?_
        refine z_bipush (z := 6) C dX10_allRunoff_17 (by decide) ?_
        refine z_bipush (z := 86) C dX10_allRunoff_19 (by decide) ?_
        refine z_iload_n C 2 dX10_allRunoff_21 rfl ?_
        refine z_imul C dX10_allRunoff_22 ?_
        refine z_iadd C dX10_allRunoff_23 ?_
        refine z_iconst (z := 1) C dX10_allRunoff_24 rfl ?_
        refine z_iadd C dX10_allRunoff_25 ?_
        refine z_iald C (lt_A (c := 1) hN rfl) hay2 ha1 (((6 + (86 * ss)) + 1).toNat) (by omega) (by omega) (by decide) dX10_allRunoff_26 ?_
        refine z_iadd C dX10_allRunoff_27 ?_
        refine z_istore_n (lv' := [(1, .int (zI (al + (r (((6 + (86 * ss)) + 1).toNat))))), (0, .ref (ad i)), (2, .int (zI (ss)))]) C dX10_allRunoff_28 rfl (by decide) rfl ?_
        refine z_iinc (z := ss + 1) (lv' := [(2, .int (zI (ss + 1))), (1, .int (zI (al + (r (((6 + (86 * ss)) + 1).toNat))))), (0, .ref (ad i))]) (j := 2) C dX10_allRunoff_29 rfl rfl (by decide) rfl ?_
        refine z_goto (tgt := 4) C dX10_allRunoff_32 (by decide) ?_
        obtain ⟨xy25, exy26, hxy27⟩ := zI_of (zI (al + (r (((6 + (86 * ss)) + 1).toNat))))
        rw [exy26]
        refine z_lv (lv' := [(0, .ref (ad i)), (1, .int (zI (xy25))), (2, .int (zI (ss + 1)))]) [2, 1, 0] rfl ?_
        exact ih _ (by omega) (xy25) (ss + 1) _ rfl rfl (by omega) (by omega)
  refine z_iconst (z := 0) C dX10_allRunoff_0 rfl ?_
  refine z_istore_n (lv' := [(1, .int (zI (0))), (0, .ref (ad i))]) C dX10_allRunoff_1 rfl (by decide) rfl ?_
  refine z_iconst (z := 0) C dX10_allRunoff_2 rfl ?_
  refine z_istore_n (lv' := [(2, .int (zI (0))), (1, .int (zI (0))), (0, .ref (ad i))]) C dX10_allRunoff_3 rfl (by decide) rfl ?_
  refine z_lv (lv' := [(0, .ref (ad i)), (1, .int (zI (0))), (2, .int (zI (0)))]) [2, 1, 0] rfl ?_
  exact lp _ (0) (0) _ rfl rfl (by omega) (by omega)

set_option maxRecDepth 100000 in
set_option maxHeartbeats 4000000 in
theorem c_X10_worst (l : Launch) (D : va_G) (A : Nat → Prop) (cs : Nat → ClassId) (tt : Nat) (N : Nat) (ad : Nat → Nat) (g : Nat → va_E) (i : Nat) (hN : i + 30 ≤ N) (x : Int) (hx : 0 ≤ x ∧ x ≤ 512) (F r : Nat → Int) {st op ai fa mu tb tp : Nat → Int} (hM : okMr cs ad g i x F r st op ai fa mu tb tp) : zM l yX10_worst cX10_worst 3 (some .int) ({ frames := 11, cells := 0, slots := 0, locals := 660 } : Room) D A cs tt N ad g [.ref (ad i)] (rI0 N ad fun q g' => (-1 ≤ q ∧ q ≤ 3) ∧ g = g') := by
  obtain ⟨hg, ⟨⟨e13, e14, e25, e27, e29⟩, k15, k16, k17, k18, k19, k20, k23, k21⟩, hRD, hTx, hA, ns, nh, nd, rf, pi, te, ki, li, ok1, ok2, fo, dd, dps, ⟨ha1, ha2, ha3, ha4, ha5, ha6, ha7, ha8, ha9, ha10, ha11, ha12, ha13, ha14, ha15, ha24, ha25, ha26, ha27, ha28, ha29⟩, hEv, hPt, hns, htp⟩ := id hM
  obtain ⟨-, hop, hai, hfa, hT, hT1⟩ := id hEv
  have hay1 : zAt ad (i) (ad i) := rfl
  have hay2 : zAt ad (i + 1) (ad (i + 1)) := rfl
  have hay3 : zAt ad (i + 2) (ad (i + 2)) := rfl
  have hay4 : zAt ad (i + 3) (ad (i + 3)) := rfl
  have hay5 : zAt ad (i + 4) (ad (i + 4)) := rfl
  have hay6 : zAt ad (i + 5) (ad (i + 5)) := rfl
  have hay7 : zAt ad (i + 6) (ad (i + 6)) := rfl
  have hay8 : zAt ad (i + 7) (ad (i + 7)) := rfl
  have hay9 : zAt ad (i + 8) (ad (i + 8)) := rfl
  have hay10 : zAt ad (i + 9) (ad (i + 9)) := rfl
  have hay11 : zAt ad (i + 10) (ad (i + 10)) := rfl
  have hay12 : zAt ad (i + 11) (ad (i + 11)) := rfl
  have hay13 : zAt ad (i + 12) (ad (i + 12)) := rfl
  have hay14 : zAt ad (i + 13) (ad (i + 13)) := rfl
  have hay15 : zAt ad (i + 14) (ad (i + 14)) := rfl
  have hay16 : zAt ad (i + 15) (ad (i + 15)) := rfl
  have hay17 : zAt ad (i + 24) (ad (i + 24)) := rfl
  have hay18 : zAt ad (i + 25) (ad (i + 25)) := rfl
  have hay19 : zAt ad (i + 26) (ad (i + 26)) := rfl
  have hay20 : zAt ad (i + 27) (ad (i + 27)) := rfl
  have hay21 : zAt ad (i + 28) (ad (i + 28)) := rfl
  have hay22 : zAt ad (i + 29) (ad (i + 29)) := rfl
  obtain ⟨⟨hsyy23, htyy23, hnyy23, hpyy23⟩, hlyy23⟩ := okA.at0 hA
  simp only [Nat.zero_add] at hsyy23 hnyy23 hpyy23
  have hmn : ∀ s, s < 4 → 0 ≤ r (6 + 86 * s) ∧ r (6 + 86 * s) ≤ 12 := fun s hs => (hsyy23 s hs).1
  have h5 : 0 ≤ r 5 ∧ r 5 ≤ 6 := hpyy23
  refine z_of (by decide) (Nat.le_of_ble_eq_true rfl) ?_
  intro pZ eZ sZ mZ below meth cZ C hr hlk hnm
  refine z_lv (lv' := [(0, .ref (ad i))]) [0] rfl ?_
  have lp : ∀ (n9 : Nat) (wh : Int) (ss : Int) (g1 : Nat → va_E), (5 - ss).toNat = n9 → (g1 = g) → (-1 ≤ wh ∧ wh < F 13) → (0 ≤ ss ∧ ss ≤ F 13) → zV pZ l eZ ({ frames := 11, cells := 0, slots := 0, locals := 660 } : Room) sZ mZ ([.ref (ad i)] : List Value).toArray below meth cZ (MQ below (zPost D A (rI0 N ad fun q g' => (-1 ≤ q ∧ q ≤ 3) ∧ g = g')) ([.ref (ad i)] : List Value).toArray sZ ({ frames := 11, cells := 0, slots := 0, locals := 660 } : Room).cells ({ frames := 11, cells := 0, slots := 0, locals := 660 } : Room).slots A) D A 3 (N) ad g1 (0) (0) 4 [(0, .ref (ad i)), (1, .int (zI (wh))), (2, .int (zI (ss)))] [] := by
    intro n9
    induction n9 using Nat.strongRecOn with
    | ind n9 ih =>
      intro wh ss g1 hm9 hg1 hv0 hv1
      subst hg1
      refine z_iload_n C 2 dX10_worst_4 rfl ?_
      refine z_aload_n C 0 dX10_worst_5 rfl ?_
      refine z_get (v := .int (zI (F 13))) C (lt_A0 hN rfl) hay1 hg rfl inA_X10 13 (by decide) q_1472 rfl (fv (F := F) (f := 13) rfl) dX10_worst_6 ?_
      refine z_icmp_ge (tgt := 40) C dX10_worst_9 (by decide) (by omega) (by omega) (fun hby24 => ?_) (fun hby24 => ?_)
      · refine z_iload_n C 1 dX10_worst_40 rfl ?_
        exact z_iret C hr hlk dX10_worst_41 (by decide) (by decide) ⟨wh, rfl, rfl, rfl, by omega, rfl⟩
      · refine z_iload_n C 1 dX10_worst_12 rfl ?_
        refine z_iconst (z := -1) C dX10_worst_13 rfl ?_
        refine z_icmp_eq (tgt := 32) C dX10_worst_14 (by decide) (by omega) (by omega) (fun hby25 => ?_) (fun hby25 => ?_)
        · refine z_iload_n C 2 dX10_worst_32 rfl ?_
          refine z_istore_n (lv' := [(1, .int (zI (ss))), (0, .ref (ad i)), (2, .int (zI (ss)))]) C dX10_worst_33 rfl (by decide) rfl ?_
          refine z_iinc (z := ss + 1) (lv' := [(2, .int (zI (ss + 1))), (1, .int (zI (ss))), (0, .ref (ad i))]) (j := 2) C dX10_worst_34 rfl rfl (by decide) rfl ?_
          refine z_goto (tgt := 4) C dX10_worst_37 (by decide) ?_
          refine z_lv (lv' := [(0, .ref (ad i)), (1, .int (zI (ss))), (2, .int (zI (ss + 1)))]) [2, 1, 0] rfl ?_
          exact ih _ (by omega) (ss) (ss + 1) _ rfl rfl (by omega) (by omega)
        · refine z_aload_n C 0 dX10_worst_17 rfl ?_
          refine z_iconst (z := 0) C dX10_worst_18 rfl ?_
          refine z_iload_n C 2 dX10_worst_19 rfl ?_
          obtain ⟨ny26, hny26⟩ : ∃ n9 : Nat, ss = (n9 : Int) := ⟨(ss).toNat, by omega⟩
          rw [hny26]
          obtain ⟨py27, hpy27⟩ : ∃ p9 : Nat, 0 + 6 + 86 * ny26 = p9 := ⟨_, rfl⟩
          have hqy29 : qS r py27 := (((okA.at0 hA).1.1 ny26 (by omega)).of (p2 := py27) (by omega)).q (by have hb9 := mBb (t := r 0 + x) (by omega); omega)
          have hmky30 := hqy29.1
          refine z_cV (As := [.int (zI (0)), .int (zI ((ny26 : Int)))]) (rest := []) (ci := 12) C (c_X10_leastRatio l D A cs tt N ad _ i hN _ hg _ ha1 _ ha2 _ ha7 0 ny26 py27 hpy27 (by omega) (by omega) hqy29) (lt_A0 hN rfl) hay1 hg rfl rfl mv_yX10_leastRatio q_1760 hd_yX10_leastRatio (by decide) (Nat.le_of_ble_eq_true rfl) (by decide) dX10_worst_20 rfl (kI0 fun vy28 gvy28 hvy28 => ?_)
          obtain ⟨hvy28, rfl⟩ := hvy28
          refine z_aload_n C 0 dX10_worst_23 rfl ?_
          refine z_iconst (z := 0) C dX10_worst_24 rfl ?_
          refine z_iload_n C 1 dX10_worst_25 rfl ?_
          obtain ⟨ny31, hny31⟩ : ∃ n9 : Nat, wh = (n9 : Int) := ⟨(wh).toNat, by omega⟩
          rw [hny31]
          obtain ⟨py32, hpy32⟩ : ∃ p9 : Nat, 0 + 6 + 86 * ny31 = p9 := ⟨_, rfl⟩
          have hqy34 : qS r py32 := (((okA.at0 hA).1.1 ny31 (by omega)).of (p2 := py32) (by omega)).q (by have hb9 := mBb (t := r 0 + x) (by omega); omega)
          have hmky35 := hqy34.1
          refine z_cV (As := [.int (zI (0)), .int (zI ((ny31 : Int)))]) (rest := [.int (zI (vy28))]) (ci := 12) C (c_X10_leastRatio l D A cs tt N ad _ i hN _ hg _ ha1 _ ha2 _ ha7 0 ny31 py32 hpy32 (by omega) (by omega) hqy34) (lt_A0 hN rfl) hay1 hg rfl rfl mv_yX10_leastRatio q_1760 hd_yX10_leastRatio (by decide) (Nat.le_of_ble_eq_true rfl) (by decide) dX10_worst_26 rfl (kI0 fun vy33 gvy33 hvy33 => ?_)
          obtain ⟨hvy33, rfl⟩ := hvy33
          refine z_icmp_ge (tgt := 34) C dX10_worst_29 (by decide) (by omega) (by omega) (fun hby36 => ?_) (fun hby36 => ?_)
          · refine z_iinc (z := (ny26 : Int) + 1) (lv' := [(2, .int (zI ((ny26 : Int) + 1))), (0, .ref (ad i)), (1, .int (zI ((ny31 : Int))))]) (j := 2) C dX10_worst_34 rfl rfl (by decide) rfl ?_
            refine z_goto (tgt := 4) C dX10_worst_37 (by decide) ?_
            refine z_lv (lv' := [(0, .ref (ad i)), (1, .int (zI ((ny31 : Int)))), (2, .int (zI ((ny26 : Int) + 1)))]) [1, 2, 0] rfl ?_
            exact ih _ (by omega) ((ny31 : Int)) ((ny26 : Int) + 1) _ rfl rfl (by omega) (by omega)
          · refine z_iload_n C 2 dX10_worst_32 rfl ?_
            refine z_istore_n (lv' := [(1, .int (zI ((ny26 : Int)))), (0, .ref (ad i)), (2, .int (zI ((ny26 : Int))))]) C dX10_worst_33 rfl (by decide) rfl ?_
            refine z_iinc (z := (ny26 : Int) + 1) (lv' := [(2, .int (zI ((ny26 : Int) + 1))), (1, .int (zI ((ny26 : Int)))), (0, .ref (ad i))]) (j := 2) C dX10_worst_34 rfl rfl (by decide) rfl ?_
            refine z_goto (tgt := 4) C dX10_worst_37 (by decide) ?_
            refine z_lv (lv' := [(0, .ref (ad i)), (1, .int (zI ((ny26 : Int)))), (2, .int (zI ((ny26 : Int) + 1)))]) [2, 1, 0] rfl ?_
            exact ih _ (by omega) ((ny26 : Int)) ((ny26 : Int) + 1) _ rfl rfl (by omega) (by omega)
  refine z_iconst (z := -1) C dX10_worst_0 rfl ?_
  refine z_istore_n (lv' := [(1, .int (zI (-1))), (0, .ref (ad i))]) C dX10_worst_1 rfl (by decide) rfl ?_
  refine z_iconst (z := 0) C dX10_worst_2 rfl ?_
  refine z_istore_n (lv' := [(2, .int (zI (0))), (1, .int (zI (-1))), (0, .ref (ad i))]) C dX10_worst_3 rfl (by decide) rfl ?_
  refine z_lv (lv' := [(0, .ref (ad i)), (1, .int (zI (-1))), (2, .int (zI (0)))]) [2, 1, 0] rfl ?_
  exact lp _ (-1) (0) _ rfl rfl (by omega) (by omega)

set_option maxRecDepth 100000 in
set_option maxHeartbeats 4000000 in
theorem c_X10_fault (l : Launch) (D : va_G) (A : Nat → Prop) (cs : Nat → ClassId) (tt : Nat) (N : Nat) (ad : Nat → Nat) (g : Nat → va_E) (i : Nat) (hN : i + 30 ≤ N) (x : Int) (hx : 0 ≤ x ∧ x ≤ 512) (F r : Nat → Int) {st op ai fa mu tb tp : Nat → Int} (hM : okMr cs ad g i x F r st op ai fa mu tb tp) : zM l yX10_fault cX10_fault 1 (some .int) ({ frames := 1, cells := 0, slots := 0, locals := 60 } : Room) D A cs tt N ad g [.ref (ad i)] (rI0 N ad fun q g' => ((-2147483648 ≤ q ∧ q ≤ 2147483647) ∧ zI (F 24) = zI q) ∧ (∃ F' r' : Nat → Int, okMr cs ad g' i (x + 1) F' r' st op ai fa mu tb tp ∧ (F' 13 = F 13 ∧ F' 14 = F 14 ∧ F' 17 = F 17 ∧ F' 20 = F 20 ∧ F' 21 = F 21 ∧ F' 23 = F 23 ∧ F' 24 = F 24)) ∧ ∀ j, j < i ∨ i + 30 ≤ j → g' j = g j) := by
  obtain ⟨hg, ⟨⟨e13, e14, e25, e27, e29⟩, k15, k16, k17, k18, k19, k20, k23, k21⟩, hRD, hTx, hA, ns, nh, nd, rf, pi, te, ki, li, ok1, ok2, fo, dd, dps, ⟨ha1, ha2, ha3, ha4, ha5, ha6, ha7, ha8, ha9, ha10, ha11, ha12, ha13, ha14, ha15, ha24, ha25, ha26, ha27, ha28, ha29⟩, hEv, hPt, hns, htp⟩ := id hM
  obtain ⟨-, hop, hai, hfa, hT, hT1⟩ := id hEv
  have hay1 : zAt ad (i) (ad i) := rfl
  have hay2 : zAt ad (i + 1) (ad (i + 1)) := rfl
  have hay3 : zAt ad (i + 2) (ad (i + 2)) := rfl
  have hay4 : zAt ad (i + 3) (ad (i + 3)) := rfl
  have hay5 : zAt ad (i + 4) (ad (i + 4)) := rfl
  have hay6 : zAt ad (i + 5) (ad (i + 5)) := rfl
  have hay7 : zAt ad (i + 6) (ad (i + 6)) := rfl
  have hay8 : zAt ad (i + 7) (ad (i + 7)) := rfl
  have hay9 : zAt ad (i + 8) (ad (i + 8)) := rfl
  have hay10 : zAt ad (i + 9) (ad (i + 9)) := rfl
  have hay11 : zAt ad (i + 10) (ad (i + 10)) := rfl
  have hay12 : zAt ad (i + 11) (ad (i + 11)) := rfl
  have hay13 : zAt ad (i + 12) (ad (i + 12)) := rfl
  have hay14 : zAt ad (i + 13) (ad (i + 13)) := rfl
  have hay15 : zAt ad (i + 14) (ad (i + 14)) := rfl
  have hay16 : zAt ad (i + 15) (ad (i + 15)) := rfl
  have hay17 : zAt ad (i + 24) (ad (i + 24)) := rfl
  have hay18 : zAt ad (i + 25) (ad (i + 25)) := rfl
  have hay19 : zAt ad (i + 26) (ad (i + 26)) := rfl
  have hay20 : zAt ad (i + 27) (ad (i + 27)) := rfl
  have hay21 : zAt ad (i + 28) (ad (i + 28)) := rfl
  have hay22 : zAt ad (i + 29) (ad (i + 29)) := rfl
  obtain ⟨⟨hsyy23, htyy23, hnyy23, hpyy23⟩, hlyy23⟩ := okA.at0 hA
  simp only [Nat.zero_add] at hsyy23 hnyy23 hpyy23
  have hmn : ∀ s, s < 4 → 0 ≤ r (6 + 86 * s) ∧ r (6 + 86 * s) ≤ 12 := fun s hs => (hsyy23 s hs).1
  have h5 : 0 ≤ r 5 ∧ r 5 ≤ 6 := hpyy23
  refine z_of (by decide) (Nat.le_of_ble_eq_true rfl) ?_
  intro pZ eZ sZ mZ below meth cZ C hr hlk hnm
  refine z_lv (lv' := [(0, .ref (ad i))]) [0] rfl ?_
  refine z_aload_n C 0 dX10_fault_0 rfl ?_
  refine z_iconst (z := 0) C dX10_fault_1 rfl ?_
  refine z_put (fs' := mF ad (i) (uZ F 12 (0))) C (lt_A0 hN rfl) hay1 hg tyX10 tyX10_ok nmX10 rfl inA_X10 12 (by decide) q_1471 rfl rfl rfl rfl (Nat.le_of_ble_eq_true rfl) rfl dX10_fault_2 (fun gy24 egy25 => ?_)
  have hgy26 := up_s egy25
  refine z_aload_n C 0 dX10_fault_5 rfl ?_
  refine z_get (v := .int (zI (F 24))) C (lt_A0 hN rfl) hay1 hgy26 rfl inA_X10 24 (by decide) q_1483 rfl (fv (F := (uZ F 12 (0))) (f := 24) (fn rfl (by decide))) dX10_fault_6 ?_
  obtain ⟨r9, e9, h9⟩ := zI_of (zI (F 24))
  rw [e9]
  have hgy27 := up_n egy25 ha1 (ne_o (i := i) (c := 1) (d := 0) rfl)
  have hFy28 : ∀ f, f ≠ 12 → (uZ F 12 (0)) f = F f := fun f n12 => ((uZ_n _ _ n12).trans rfl)
  have hey29 : (uZ F 12 (0)) 13 = F 13 := (fn rfl (by decide))
  have hey30 : (uZ F 12 (0)) 14 = F 14 := (fn rfl (by decide))
  have hey31 : (uZ F 12 (0)) 15 = F 15 := (fn rfl (by decide))
  have hey32 : (uZ F 12 (0)) 16 = F 16 := (fn rfl (by decide))
  have hey33 : (uZ F 12 (0)) 17 = F 17 := (fn rfl (by decide))
  have hey34 : (uZ F 12 (0)) 18 = F 18 := (fn rfl (by decide))
  have hey35 : (uZ F 12 (0)) 19 = F 19 := (fn rfl (by decide))
  have hey36 : (uZ F 12 (0)) 20 = F 20 := (fn rfl (by decide))
  have hey37 : (uZ F 12 (0)) 21 = F 21 := (fn rfl (by decide))
  have hey38 : (uZ F 12 (0)) 23 = F 23 := (fn rfl (by decide))
  have hey39 : (uZ F 12 (0)) 25 = F 25 := (fn rfl (by decide))
  have hey40 : (uZ F 12 (0)) 27 = F 27 := (fn rfl (by decide))
  have hey41 : (uZ F 12 (0)) 28 = F 28 := (fn rfl (by decide))
  have hey42 : (uZ F 12 (0)) 29 = F 29 := (fn rfl (by decide))
  have hKy43 : okF (uZ F 12 (0)) := okF.mv hM.2.1 hey29 hey30 hey31 hey32 hey33 hey34 hey35 hey36 hey37 hey38 hey39 hey40 hey41 hey42
  have hMy44 : okMr cs ad gy24 i (x + 1) (uZ F 12 (0)) r st op ai fa mu tb tp := okMr.upd hM hgy26 hKy43 (fun f a => hFy28 f (by omega)) hgy27 (hA.mono (by omega)) (fun j a b => by
      exact Or.inl (by rw [egy25, va_up_ne _ _ (by omega)]))
  have hkpy45 : (uZ F 12 (0)) 13 = F 13 := (fn rfl (by decide))
  have hkpy46 : (uZ F 12 (0)) 14 = F 14 := (fn rfl (by decide))
  have hkpy47 : (uZ F 12 (0)) 17 = F 17 := (fn rfl (by decide))
  have hkpy48 : (uZ F 12 (0)) 20 = F 20 := (fn rfl (by decide))
  have hkpy49 : (uZ F 12 (0)) 21 = F 21 := (fn rfl (by decide))
  have hkpy50 : (uZ F 12 (0)) 23 = F 23 := (fn rfl (by decide))
  have hkpy51 : (uZ F 12 (0)) 24 = F 24 := (fn rfl (by decide))
  exact z_iret C hr hlk dX10_fault_9 (by decide) (by decide) ⟨r9, rfl, rfl, rfl, ⟨by omega, (by first | rfl | exact e9)⟩, ⟨_, _, hMy44, ⟨hkpy45, hkpy46, hkpy47, hkpy48, hkpy49, hkpy50, hkpy51⟩⟩, fun j j1 => by rw [egy25, va_up_ne _ _ (by omega)]⟩

set_option maxRecDepth 100000 in
set_option maxHeartbeats 4000000 in
theorem c_X10_count (l : Launch) (D : va_G) (A : Nat → Prop) (cs : Nat → ClassId) (tt : Nat) (N : Nat) (ad : Nat → Nat) (g : Nat → va_E) (i : Nat) (hN : i + 30 ≤ N) (x : Int) (hx : 0 ≤ x ∧ x ≤ 512) (F r : Nat → Int) {st op ai fa mu tb tp : Nat → Int} (hM : okMr cs ad g i x F r st op ai fa mu tb tp) (z : Int) (hz : -2147483648 ≤ z ∧ z ≤ 2147483647) : zM l yX10_count cX10_count 2 (some .int) ({ frames := 12, cells := 0, slots := 0, locals := 720 } : Room) D A cs tt N ad g [.ref (ad i), .int (zI (z))] (rI0 N ad fun q g' => (-2147483648 ≤ q ∧ q ≤ 2147483647) ∧ (∃ F' r' : Nat → Int, okMr cs ad g' i (x + 1) F' r' st op ai fa mu tb tp ∧ (F' 13 = F 13 ∧ F' 14 = F 14 ∧ F' 17 = F 17 ∧ F' 20 = F 20 ∧ F' 21 = F 21 ∧ F' 23 = F 23 ∧ F' 24 = F 24)) ∧ ∀ j, j < i ∨ i + 30 ≤ j → g' j = g j) := by
  obtain ⟨hg, ⟨⟨e13, e14, e25, e27, e29⟩, k15, k16, k17, k18, k19, k20, k23, k21⟩, hRD, hTx, hA, ns, nh, nd, rf, pi, te, ki, li, ok1, ok2, fo, dd, dps, ⟨ha1, ha2, ha3, ha4, ha5, ha6, ha7, ha8, ha9, ha10, ha11, ha12, ha13, ha14, ha15, ha24, ha25, ha26, ha27, ha28, ha29⟩, hEv, hPt, hns, htp⟩ := id hM
  obtain ⟨-, hop, hai, hfa, hT, hT1⟩ := id hEv
  have hay1 : zAt ad (i) (ad i) := rfl
  have hay2 : zAt ad (i + 1) (ad (i + 1)) := rfl
  have hay3 : zAt ad (i + 2) (ad (i + 2)) := rfl
  have hay4 : zAt ad (i + 3) (ad (i + 3)) := rfl
  have hay5 : zAt ad (i + 4) (ad (i + 4)) := rfl
  have hay6 : zAt ad (i + 5) (ad (i + 5)) := rfl
  have hay7 : zAt ad (i + 6) (ad (i + 6)) := rfl
  have hay8 : zAt ad (i + 7) (ad (i + 7)) := rfl
  have hay9 : zAt ad (i + 8) (ad (i + 8)) := rfl
  have hay10 : zAt ad (i + 9) (ad (i + 9)) := rfl
  have hay11 : zAt ad (i + 10) (ad (i + 10)) := rfl
  have hay12 : zAt ad (i + 11) (ad (i + 11)) := rfl
  have hay13 : zAt ad (i + 12) (ad (i + 12)) := rfl
  have hay14 : zAt ad (i + 13) (ad (i + 13)) := rfl
  have hay15 : zAt ad (i + 14) (ad (i + 14)) := rfl
  have hay16 : zAt ad (i + 15) (ad (i + 15)) := rfl
  have hay17 : zAt ad (i + 24) (ad (i + 24)) := rfl
  have hay18 : zAt ad (i + 25) (ad (i + 25)) := rfl
  have hay19 : zAt ad (i + 26) (ad (i + 26)) := rfl
  have hay20 : zAt ad (i + 27) (ad (i + 27)) := rfl
  have hay21 : zAt ad (i + 28) (ad (i + 28)) := rfl
  have hay22 : zAt ad (i + 29) (ad (i + 29)) := rfl
  obtain ⟨⟨hsyy23, htyy23, hnyy23, hpyy23⟩, hlyy23⟩ := okA.at0 hA
  simp only [Nat.zero_add] at hsyy23 hnyy23 hpyy23
  have hmn : ∀ s, s < 4 → 0 ≤ r (6 + 86 * s) ∧ r (6 + 86 * s) ≤ 12 := fun s hs => (hsyy23 s hs).1
  have h5 : 0 ≤ r 5 ∧ r 5 ≤ 6 := hpyy23
  refine z_of (by decide) (Nat.le_of_ble_eq_true rfl) ?_
  intro pZ eZ sZ mZ below meth cZ C hr hlk hnm
  refine z_lv (lv' := [(0, .ref (ad i)), (1, .int (zI (z)))]) [0, 1] rfl ?_
  refine z_aload_n C 0 dX10_count_0 rfl ?_
  refine z_iconst (z := 0) C dX10_count_1 rfl ?_
  refine z_put (fs' := mF ad (i) (uZ F 12 (0))) C (lt_A0 hN rfl) hay1 hg tyX10 tyX10_ok nmX10 rfl inA_X10 12 (by decide) q_1471 rfl rfl rfl rfl (Nat.le_of_ble_eq_true rfl) rfl dX10_count_2 (fun gy24 egy25 => ?_)
  have hgy26 := up_s egy25
  refine z_aload_n C 0 dX10_count_5 rfl ?_
  refine z_iload_n C 1 dX10_count_6 rfl ?_
  refine z_iconst (z := 0) C dX10_count_7 rfl ?_
  refine z_bipush (z := 17) C dX10_count_8 (by decide) ?_
  refine z_cS (As := [.int (zI (z)), .int (zI (0)), .int (zI (17))]) (rest := [.ref (ad i)]) C (c_X10_within l D A cs tt N ad _ (z) (by omega) (0) (by omega) (17) (by omega)) ms_yX10_within q_1686 hd_yX10_within (by decide) (Nat.le_of_ble_eq_true rfl) (by decide) dX10_count_10 rfl (kI0 fun vy27 gvy27 hvy27 => ?_)
  obtain ⟨hvy27, rfl⟩ := hvy27
  rcases hvy27 with ⟨rfl, hxvy27⟩ | ⟨rfl, hxvy27⟩
  · refine z_iconst (z := 1) C dX10_count_13 rfl ?_
    have hey29 : (uZ F 12 (0)) 12 = 0 := (uZ_s _ _ _)
    refine z_cV (As := [.int (zI (1)), .int (zI (1))]) (rest := []) (ci := 12) C (c_X10_right l D A cs tt N ad _ i hN _ hgy26 (by omega) (1) (by omega) (1) (by omega)) (lt_A0 hN rfl) hay1 hgy26 rfl rfl mv_yX10_right q_1648 hd_yX10_right (by decide) (Nat.le_of_ble_eq_true rfl) (by decide) dX10_count_14 rfl (kI0 fun vy28 gvy28 hvy28 => ?_)
    obtain ⟨hrvy28, ⟨Fvy28, hcvy28, htvy28, hFvy28⟩, hfvy28⟩ := hvy28
    rcases (show vy28 = 1 ∨ vy28 = 0 by omega) with rfl | rfl
    · refine z_if_ne (tgt := 22) C dX10_count_17 (by decide) (by omega) (fun _ => ?_) (fun h => absurd h (by omega))
      refine z_iload_n C 1 dX10_count_22 rfl ?_
      by_cases hsy30 : z ≠ 0 ∧ z ≠ 1 ∧ z ≠ 2 ∧ z ≠ 3 ∧ z ≠ 4 ∧ z ≠ 5 ∧ z ≠ 6 ∧ z ≠ 7 ∧ z ≠ 8 ∧ z ≠ 9 ∧ z ≠ 10 ∧ z ≠ 11 ∧ z ≠ 12 ∧ z ≠ 13 ∧ z ≠ 14
      · refine z_tout (tgt := 183) C dX10_count_23 (by omega) (by omega) (by decide) ?_
        refine z_aload_n C 0 dX10_count_183 rfl ?_
        refine z_get (v := .ref (ad (i + 11))) C (lt_A0 hN rfl) hay1 hcvy28 rfl inA_X10 10 (by decide) q_1469 rfl rfl dX10_count_184 ?_
        refine z_iload_n C 1 dX10_count_187 rfl ?_
        refine z_bipush (z := 15) C dX10_count_188 (by decide) ?_
        refine z_isub C dX10_count_190 ?_
        have hgy31 := up_n egy25 ha11 (ne_o (i := i) (c := 11) (d := 0) rfl)
        have hgy32 := (hfvy28 (i + 11) (ne_o (i := i) (c := 11) (d := 0) rfl)).trans hgy31
        refine z_iald C (lt_A (c := 11) hN rfl) hay12 hgy32 ((z - 15).toNat) (by omega) (by omega) (by decide) dX10_count_191 ?_
        obtain ⟨xy33, exy34, hxy35⟩ := zI_of (zI (rf ((z - 15).toNat)))
        rw [exy34]
        have hgy36 := up_n egy25 ha1 (ne_o (i := i) (c := 1) (d := 0) rfl)
        have hgy37 := (hfvy28 (i + 1) (ne_o (i := i) (c := 1) (d := 0) rfl)).trans hgy36
        have hFy38 : ∀ f, f ≠ 12 → Fvy28 f = F f := fun f n12 => ((hFvy28 f n12).trans ((uZ_n _ _ n12).trans rfl))
        have hey39 : Fvy28 13 = F 13 := ((hFvy28 13 (by decide)).trans (fn rfl (by decide)))
        have hey40 : Fvy28 14 = F 14 := ((hFvy28 14 (by decide)).trans (fn rfl (by decide)))
        have hey41 : Fvy28 15 = F 15 := ((hFvy28 15 (by decide)).trans (fn rfl (by decide)))
        have hey42 : Fvy28 16 = F 16 := ((hFvy28 16 (by decide)).trans (fn rfl (by decide)))
        have hey43 : Fvy28 17 = F 17 := ((hFvy28 17 (by decide)).trans (fn rfl (by decide)))
        have hey44 : Fvy28 18 = F 18 := ((hFvy28 18 (by decide)).trans (fn rfl (by decide)))
        have hey45 : Fvy28 19 = F 19 := ((hFvy28 19 (by decide)).trans (fn rfl (by decide)))
        have hey46 : Fvy28 20 = F 20 := ((hFvy28 20 (by decide)).trans (fn rfl (by decide)))
        have hey47 : Fvy28 21 = F 21 := ((hFvy28 21 (by decide)).trans (fn rfl (by decide)))
        have hey48 : Fvy28 23 = F 23 := ((hFvy28 23 (by decide)).trans (fn rfl (by decide)))
        have hey49 : Fvy28 25 = F 25 := ((hFvy28 25 (by decide)).trans (fn rfl (by decide)))
        have hey50 : Fvy28 27 = F 27 := ((hFvy28 27 (by decide)).trans (fn rfl (by decide)))
        have hey51 : Fvy28 28 = F 28 := ((hFvy28 28 (by decide)).trans (fn rfl (by decide)))
        have hey52 : Fvy28 29 = F 29 := ((hFvy28 29 (by decide)).trans (fn rfl (by decide)))
        have hKy53 : okF Fvy28 := okF.mv hM.2.1 hey39 hey40 hey41 hey42 hey43 hey44 hey45 hey46 hey47 hey48 hey49 hey50 hey51 hey52
        have hMy54 : okMr cs ad gvy28 i (x + 1) Fvy28 r st op ai fa mu tb tp := okMr.upd hM hcvy28 hKy53 (fun f a => hFy38 f (by omega)) hgy37 (hA.mono (by omega)) (fun j a b => by
            exact Or.inl (by rw [hfvy28 _ (by omega)]; rw [egy25, va_up_ne _ _ (by omega)]))
        have hkpy55 : Fvy28 13 = F 13 := ((hFvy28 13 (by decide)).trans (fn rfl (by decide)))
        have hkpy56 : Fvy28 14 = F 14 := ((hFvy28 14 (by decide)).trans (fn rfl (by decide)))
        have hkpy57 : Fvy28 17 = F 17 := ((hFvy28 17 (by decide)).trans (fn rfl (by decide)))
        have hkpy58 : Fvy28 20 = F 20 := ((hFvy28 20 (by decide)).trans (fn rfl (by decide)))
        have hkpy59 : Fvy28 21 = F 21 := ((hFvy28 21 (by decide)).trans (fn rfl (by decide)))
        have hkpy60 : Fvy28 23 = F 23 := ((hFvy28 23 (by decide)).trans (fn rfl (by decide)))
        have hkpy61 : Fvy28 24 = F 24 := ((hFvy28 24 (by decide)).trans (fn rfl (by decide)))
        exact z_iret C hr hlk dX10_count_192 (by decide) (by decide) ⟨xy33, rfl, rfl, rfl, by omega, ⟨_, _, hMy54, ⟨hkpy55, hkpy56, hkpy57, hkpy58, hkpy59, hkpy60, hkpy61⟩⟩, fun j j1 => by rw [hfvy28 _ (by omega)]; rw [egy25, va_up_ne _ _ (by omega)]⟩
      · rcases (show z = 0 ∨ z = 1 ∨ z = 2 ∨ z = 3 ∨ z = 4 ∨ z = 5 ∨ z = 6 ∨ z = 7 ∨ z = 8 ∨ z = 9 ∨ z = 10 ∨ z = 11 ∨ z = 12 ∨ z = 13 ∨ z = 14 by omega) with rfl | rfl | rfl | rfl | rfl | rfl | rfl | rfl | rfl | rfl | rfl | rfl | rfl | rfl | rfl
        · refine z_tin (off := 73) (tgt := 96) C dX10_count_23 (by omega) (by omega) (by omega) rfl (by decide) ?_
          refine z_aload_n C 0 dX10_count_96 rfl ?_
          refine z_get (v := .int (zI (F 13))) C (lt_A0 hN rfl) hay1 hcvy28 rfl inA_X10 13 (by decide) q_1472 rfl (fv (F := Fvy28) (f := 13) ((hFvy28 13 (by decide)).trans (fn rfl (by decide)))) dX10_count_97 ?_
          have hgy62 := up_n egy25 ha1 (ne_o (i := i) (c := 1) (d := 0) rfl)
          have hgy63 := (hfvy28 (i + 1) (ne_o (i := i) (c := 1) (d := 0) rfl)).trans hgy62
          have hFy64 : ∀ f, f ≠ 12 → Fvy28 f = F f := fun f n12 => ((hFvy28 f n12).trans ((uZ_n _ _ n12).trans rfl))
          have hey65 : Fvy28 13 = F 13 := ((hFvy28 13 (by decide)).trans (fn rfl (by decide)))
          have hey66 : Fvy28 14 = F 14 := ((hFvy28 14 (by decide)).trans (fn rfl (by decide)))
          have hey67 : Fvy28 15 = F 15 := ((hFvy28 15 (by decide)).trans (fn rfl (by decide)))
          have hey68 : Fvy28 16 = F 16 := ((hFvy28 16 (by decide)).trans (fn rfl (by decide)))
          have hey69 : Fvy28 17 = F 17 := ((hFvy28 17 (by decide)).trans (fn rfl (by decide)))
          have hey70 : Fvy28 18 = F 18 := ((hFvy28 18 (by decide)).trans (fn rfl (by decide)))
          have hey71 : Fvy28 19 = F 19 := ((hFvy28 19 (by decide)).trans (fn rfl (by decide)))
          have hey72 : Fvy28 20 = F 20 := ((hFvy28 20 (by decide)).trans (fn rfl (by decide)))
          have hey73 : Fvy28 21 = F 21 := ((hFvy28 21 (by decide)).trans (fn rfl (by decide)))
          have hey74 : Fvy28 23 = F 23 := ((hFvy28 23 (by decide)).trans (fn rfl (by decide)))
          have hey75 : Fvy28 25 = F 25 := ((hFvy28 25 (by decide)).trans (fn rfl (by decide)))
          have hey76 : Fvy28 27 = F 27 := ((hFvy28 27 (by decide)).trans (fn rfl (by decide)))
          have hey77 : Fvy28 28 = F 28 := ((hFvy28 28 (by decide)).trans (fn rfl (by decide)))
          have hey78 : Fvy28 29 = F 29 := ((hFvy28 29 (by decide)).trans (fn rfl (by decide)))
          have hKy79 : okF Fvy28 := okF.mv hM.2.1 hey65 hey66 hey67 hey68 hey69 hey70 hey71 hey72 hey73 hey74 hey75 hey76 hey77 hey78
          have hMy80 : okMr cs ad gvy28 i (x + 1) Fvy28 r st op ai fa mu tb tp := okMr.upd hM hcvy28 hKy79 (fun f a => hFy64 f (by omega)) hgy63 (hA.mono (by omega)) (fun j a b => by
              exact Or.inl (by rw [hfvy28 _ (by omega)]; rw [egy25, va_up_ne _ _ (by omega)]))
          have hkpy81 : Fvy28 13 = F 13 := ((hFvy28 13 (by decide)).trans (fn rfl (by decide)))
          have hkpy82 : Fvy28 14 = F 14 := ((hFvy28 14 (by decide)).trans (fn rfl (by decide)))
          have hkpy83 : Fvy28 17 = F 17 := ((hFvy28 17 (by decide)).trans (fn rfl (by decide)))
          have hkpy84 : Fvy28 20 = F 20 := ((hFvy28 20 (by decide)).trans (fn rfl (by decide)))
          have hkpy85 : Fvy28 21 = F 21 := ((hFvy28 21 (by decide)).trans (fn rfl (by decide)))
          have hkpy86 : Fvy28 23 = F 23 := ((hFvy28 23 (by decide)).trans (fn rfl (by decide)))
          have hkpy87 : Fvy28 24 = F 24 := ((hFvy28 24 (by decide)).trans (fn rfl (by decide)))
          exact z_iret C hr hlk dX10_count_100 (by decide) (by decide) ⟨F 13, rfl, rfl, rfl, by omega, ⟨_, _, hMy80, ⟨hkpy81, hkpy82, hkpy83, hkpy84, hkpy85, hkpy86, hkpy87⟩⟩, fun j j1 => by rw [hfvy28 _ (by omega)]; rw [egy25, va_up_ne _ _ (by omega)]⟩
        · refine z_tin (off := 78) (tgt := 101) C dX10_count_23 (by omega) (by omega) (by omega) rfl (by decide) ?_
          refine z_aload_n C 0 dX10_count_101 rfl ?_
          refine z_get (v := .int (zI (F 14))) C (lt_A0 hN rfl) hay1 hcvy28 rfl inA_X10 14 (by decide) q_1473 rfl (fv (F := Fvy28) (f := 14) ((hFvy28 14 (by decide)).trans (fn rfl (by decide)))) dX10_count_102 ?_
          have hgy88 := up_n egy25 ha1 (ne_o (i := i) (c := 1) (d := 0) rfl)
          have hgy89 := (hfvy28 (i + 1) (ne_o (i := i) (c := 1) (d := 0) rfl)).trans hgy88
          have hFy90 : ∀ f, f ≠ 12 → Fvy28 f = F f := fun f n12 => ((hFvy28 f n12).trans ((uZ_n _ _ n12).trans rfl))
          have hey91 : Fvy28 13 = F 13 := ((hFvy28 13 (by decide)).trans (fn rfl (by decide)))
          have hey92 : Fvy28 14 = F 14 := ((hFvy28 14 (by decide)).trans (fn rfl (by decide)))
          have hey93 : Fvy28 15 = F 15 := ((hFvy28 15 (by decide)).trans (fn rfl (by decide)))
          have hey94 : Fvy28 16 = F 16 := ((hFvy28 16 (by decide)).trans (fn rfl (by decide)))
          have hey95 : Fvy28 17 = F 17 := ((hFvy28 17 (by decide)).trans (fn rfl (by decide)))
          have hey96 : Fvy28 18 = F 18 := ((hFvy28 18 (by decide)).trans (fn rfl (by decide)))
          have hey97 : Fvy28 19 = F 19 := ((hFvy28 19 (by decide)).trans (fn rfl (by decide)))
          have hey98 : Fvy28 20 = F 20 := ((hFvy28 20 (by decide)).trans (fn rfl (by decide)))
          have hey99 : Fvy28 21 = F 21 := ((hFvy28 21 (by decide)).trans (fn rfl (by decide)))
          have hey100 : Fvy28 23 = F 23 := ((hFvy28 23 (by decide)).trans (fn rfl (by decide)))
          have hey101 : Fvy28 25 = F 25 := ((hFvy28 25 (by decide)).trans (fn rfl (by decide)))
          have hey102 : Fvy28 27 = F 27 := ((hFvy28 27 (by decide)).trans (fn rfl (by decide)))
          have hey103 : Fvy28 28 = F 28 := ((hFvy28 28 (by decide)).trans (fn rfl (by decide)))
          have hey104 : Fvy28 29 = F 29 := ((hFvy28 29 (by decide)).trans (fn rfl (by decide)))
          have hKy105 : okF Fvy28 := okF.mv hM.2.1 hey91 hey92 hey93 hey94 hey95 hey96 hey97 hey98 hey99 hey100 hey101 hey102 hey103 hey104
          have hMy106 : okMr cs ad gvy28 i (x + 1) Fvy28 r st op ai fa mu tb tp := okMr.upd hM hcvy28 hKy105 (fun f a => hFy90 f (by omega)) hgy89 (hA.mono (by omega)) (fun j a b => by
              exact Or.inl (by rw [hfvy28 _ (by omega)]; rw [egy25, va_up_ne _ _ (by omega)]))
          have hkpy107 : Fvy28 13 = F 13 := ((hFvy28 13 (by decide)).trans (fn rfl (by decide)))
          have hkpy108 : Fvy28 14 = F 14 := ((hFvy28 14 (by decide)).trans (fn rfl (by decide)))
          have hkpy109 : Fvy28 17 = F 17 := ((hFvy28 17 (by decide)).trans (fn rfl (by decide)))
          have hkpy110 : Fvy28 20 = F 20 := ((hFvy28 20 (by decide)).trans (fn rfl (by decide)))
          have hkpy111 : Fvy28 21 = F 21 := ((hFvy28 21 (by decide)).trans (fn rfl (by decide)))
          have hkpy112 : Fvy28 23 = F 23 := ((hFvy28 23 (by decide)).trans (fn rfl (by decide)))
          have hkpy113 : Fvy28 24 = F 24 := ((hFvy28 24 (by decide)).trans (fn rfl (by decide)))
          exact z_iret C hr hlk dX10_count_105 (by decide) (by decide) ⟨F 14, rfl, rfl, rfl, by omega, ⟨_, _, hMy106, ⟨hkpy107, hkpy108, hkpy109, hkpy110, hkpy111, hkpy112, hkpy113⟩⟩, fun j j1 => by rw [hfvy28 _ (by omega)]; rw [egy25, va_up_ne _ _ (by omega)]⟩
        · refine z_tin (off := 83) (tgt := 106) C dX10_count_23 (by omega) (by omega) (by omega) rfl (by decide) ?_
          refine z_aload_n C 0 dX10_count_106 rfl ?_
          refine z_get (v := .ref (ad (i + 1))) C (lt_A0 hN rfl) hay1 hcvy28 rfl inA_X10 0 (by decide) q_1459 rfl rfl dX10_count_107 ?_
          refine z_iconst (z := 0) C dX10_count_110 rfl ?_
          have hgy114 := up_n egy25 ha1 (ne_o (i := i) (c := 1) (d := 0) rfl)
          have hgy115 := (hfvy28 (i + 1) (ne_o (i := i) (c := 1) (d := 0) rfl)).trans hgy114
          refine z_iald C (lt_A (c := 1) hN rfl) hay2 hgy115 (0) (by omega) (by omega) (by decide) dX10_count_111 ?_
          have hFy116 : ∀ f, f ≠ 12 → Fvy28 f = F f := fun f n12 => ((hFvy28 f n12).trans ((uZ_n _ _ n12).trans rfl))
          have hey117 : Fvy28 13 = F 13 := ((hFvy28 13 (by decide)).trans (fn rfl (by decide)))
          have hey118 : Fvy28 14 = F 14 := ((hFvy28 14 (by decide)).trans (fn rfl (by decide)))
          have hey119 : Fvy28 15 = F 15 := ((hFvy28 15 (by decide)).trans (fn rfl (by decide)))
          have hey120 : Fvy28 16 = F 16 := ((hFvy28 16 (by decide)).trans (fn rfl (by decide)))
          have hey121 : Fvy28 17 = F 17 := ((hFvy28 17 (by decide)).trans (fn rfl (by decide)))
          have hey122 : Fvy28 18 = F 18 := ((hFvy28 18 (by decide)).trans (fn rfl (by decide)))
          have hey123 : Fvy28 19 = F 19 := ((hFvy28 19 (by decide)).trans (fn rfl (by decide)))
          have hey124 : Fvy28 20 = F 20 := ((hFvy28 20 (by decide)).trans (fn rfl (by decide)))
          have hey125 : Fvy28 21 = F 21 := ((hFvy28 21 (by decide)).trans (fn rfl (by decide)))
          have hey126 : Fvy28 23 = F 23 := ((hFvy28 23 (by decide)).trans (fn rfl (by decide)))
          have hey127 : Fvy28 25 = F 25 := ((hFvy28 25 (by decide)).trans (fn rfl (by decide)))
          have hey128 : Fvy28 27 = F 27 := ((hFvy28 27 (by decide)).trans (fn rfl (by decide)))
          have hey129 : Fvy28 28 = F 28 := ((hFvy28 28 (by decide)).trans (fn rfl (by decide)))
          have hey130 : Fvy28 29 = F 29 := ((hFvy28 29 (by decide)).trans (fn rfl (by decide)))
          have hKy131 : okF Fvy28 := okF.mv hM.2.1 hey117 hey118 hey119 hey120 hey121 hey122 hey123 hey124 hey125 hey126 hey127 hey128 hey129 hey130
          have hMy132 : okMr cs ad gvy28 i (x + 1) Fvy28 r st op ai fa mu tb tp := okMr.upd hM hcvy28 hKy131 (fun f a => hFy116 f (by omega)) hgy115 (hA.mono (by omega)) (fun j a b => by
              exact Or.inl (by rw [hfvy28 _ (by omega)]; rw [egy25, va_up_ne _ _ (by omega)]))
          have hkpy133 : Fvy28 13 = F 13 := ((hFvy28 13 (by decide)).trans (fn rfl (by decide)))
          have hkpy134 : Fvy28 14 = F 14 := ((hFvy28 14 (by decide)).trans (fn rfl (by decide)))
          have hkpy135 : Fvy28 17 = F 17 := ((hFvy28 17 (by decide)).trans (fn rfl (by decide)))
          have hkpy136 : Fvy28 20 = F 20 := ((hFvy28 20 (by decide)).trans (fn rfl (by decide)))
          have hkpy137 : Fvy28 21 = F 21 := ((hFvy28 21 (by decide)).trans (fn rfl (by decide)))
          have hkpy138 : Fvy28 23 = F 23 := ((hFvy28 23 (by decide)).trans (fn rfl (by decide)))
          have hkpy139 : Fvy28 24 = F 24 := ((hFvy28 24 (by decide)).trans (fn rfl (by decide)))
          exact z_iret C hr hlk dX10_count_112 (by decide) (by decide) ⟨r (0), rfl, rfl, rfl, by omega, ⟨_, _, hMy132, ⟨hkpy133, hkpy134, hkpy135, hkpy136, hkpy137, hkpy138, hkpy139⟩⟩, fun j j1 => by rw [hfvy28 _ (by omega)]; rw [egy25, va_up_ne _ _ (by omega)]⟩
        · refine z_tin (off := 90) (tgt := 113) C dX10_count_23 (by omega) (by omega) (by omega) rfl (by decide) ?_
          refine z_aload_n C 0 dX10_count_113 rfl ?_
          have hgy140 := up_n egy25 ha1 (ne_o (i := i) (c := 1) (d := 0) rfl)
          have hgy141 := (hfvy28 (i + 1) (ne_o (i := i) (c := 1) (d := 0) rfl)).trans hgy140
          have hFy142 : ∀ f, f ≠ 12 → Fvy28 f = F f := fun f n12 => ((hFvy28 f n12).trans ((uZ_n _ _ n12).trans rfl))
          have hey143 : Fvy28 13 = F 13 := ((hFvy28 13 (by decide)).trans (fn rfl (by decide)))
          have hey144 : Fvy28 14 = F 14 := ((hFvy28 14 (by decide)).trans (fn rfl (by decide)))
          have hey145 : Fvy28 15 = F 15 := ((hFvy28 15 (by decide)).trans (fn rfl (by decide)))
          have hey146 : Fvy28 16 = F 16 := ((hFvy28 16 (by decide)).trans (fn rfl (by decide)))
          have hey147 : Fvy28 17 = F 17 := ((hFvy28 17 (by decide)).trans (fn rfl (by decide)))
          have hey148 : Fvy28 18 = F 18 := ((hFvy28 18 (by decide)).trans (fn rfl (by decide)))
          have hey149 : Fvy28 19 = F 19 := ((hFvy28 19 (by decide)).trans (fn rfl (by decide)))
          have hey150 : Fvy28 20 = F 20 := ((hFvy28 20 (by decide)).trans (fn rfl (by decide)))
          have hey151 : Fvy28 21 = F 21 := ((hFvy28 21 (by decide)).trans (fn rfl (by decide)))
          have hey152 : Fvy28 23 = F 23 := ((hFvy28 23 (by decide)).trans (fn rfl (by decide)))
          have hey153 : Fvy28 25 = F 25 := ((hFvy28 25 (by decide)).trans (fn rfl (by decide)))
          have hey154 : Fvy28 27 = F 27 := ((hFvy28 27 (by decide)).trans (fn rfl (by decide)))
          have hey155 : Fvy28 28 = F 28 := ((hFvy28 28 (by decide)).trans (fn rfl (by decide)))
          have hey156 : Fvy28 29 = F 29 := ((hFvy28 29 (by decide)).trans (fn rfl (by decide)))
          have hKy157 : okF Fvy28 := okF.mv hM.2.1 hey143 hey144 hey145 hey146 hey147 hey148 hey149 hey150 hey151 hey152 hey153 hey154 hey155 hey156
          have hMy158 : okMr cs ad gvy28 i (x) Fvy28 r st op ai fa mu tb tp := okMr.upd hM hcvy28 hKy157 (fun f a => hFy142 f (by omega)) hgy141 (hA.mono (by omega)) (fun j a b => by
              exact Or.inl (by rw [hfvy28 _ (by omega)]; rw [egy25, va_up_ne _ _ (by omega)]))
          refine z_cV (As := []) (rest := []) (ci := 12) C (c_X10_allLayers l D A cs tt N ad _ i hN x hx _ _ hMy158 ) (lt_A0 hN rfl) hay1 hcvy28 rfl rfl mv_yX10_allLayers q_1729 hd_yX10_allLayers (by decide) (Nat.le_of_ble_eq_true rfl) (by decide) dX10_count_114 rfl (kI0 fun vy159 gvy159 hvy159 => ?_)
          obtain ⟨hvy159, rfl⟩ := hvy159
          have hFy160 : ∀ f, f ≠ 12 → Fvy28 f = F f := fun f n12 => ((hFvy28 f n12).trans ((uZ_n _ _ n12).trans rfl))
          have hey161 : Fvy28 13 = F 13 := ((hFvy28 13 (by decide)).trans (fn rfl (by decide)))
          have hey162 : Fvy28 14 = F 14 := ((hFvy28 14 (by decide)).trans (fn rfl (by decide)))
          have hey163 : Fvy28 15 = F 15 := ((hFvy28 15 (by decide)).trans (fn rfl (by decide)))
          have hey164 : Fvy28 16 = F 16 := ((hFvy28 16 (by decide)).trans (fn rfl (by decide)))
          have hey165 : Fvy28 17 = F 17 := ((hFvy28 17 (by decide)).trans (fn rfl (by decide)))
          have hey166 : Fvy28 18 = F 18 := ((hFvy28 18 (by decide)).trans (fn rfl (by decide)))
          have hey167 : Fvy28 19 = F 19 := ((hFvy28 19 (by decide)).trans (fn rfl (by decide)))
          have hey168 : Fvy28 20 = F 20 := ((hFvy28 20 (by decide)).trans (fn rfl (by decide)))
          have hey169 : Fvy28 21 = F 21 := ((hFvy28 21 (by decide)).trans (fn rfl (by decide)))
          have hey170 : Fvy28 23 = F 23 := ((hFvy28 23 (by decide)).trans (fn rfl (by decide)))
          have hey171 : Fvy28 25 = F 25 := ((hFvy28 25 (by decide)).trans (fn rfl (by decide)))
          have hey172 : Fvy28 27 = F 27 := ((hFvy28 27 (by decide)).trans (fn rfl (by decide)))
          have hey173 : Fvy28 28 = F 28 := ((hFvy28 28 (by decide)).trans (fn rfl (by decide)))
          have hey174 : Fvy28 29 = F 29 := ((hFvy28 29 (by decide)).trans (fn rfl (by decide)))
          have hKy175 : okF Fvy28 := okF.mv hM.2.1 hey161 hey162 hey163 hey164 hey165 hey166 hey167 hey168 hey169 hey170 hey171 hey172 hey173 hey174
          have hMy176 : okMr cs ad gvy28 i (x + 1) Fvy28 r st op ai fa mu tb tp := okMr.upd hM hcvy28 hKy175 (fun f a => hFy160 f (by omega)) hgy141 (hA.mono (by omega)) (fun j a b => by
              exact Or.inl (by rw [hfvy28 _ (by omega)]; rw [egy25, va_up_ne _ _ (by omega)]))
          have hkpy177 : Fvy28 13 = F 13 := ((hFvy28 13 (by decide)).trans (fn rfl (by decide)))
          have hkpy178 : Fvy28 14 = F 14 := ((hFvy28 14 (by decide)).trans (fn rfl (by decide)))
          have hkpy179 : Fvy28 17 = F 17 := ((hFvy28 17 (by decide)).trans (fn rfl (by decide)))
          have hkpy180 : Fvy28 20 = F 20 := ((hFvy28 20 (by decide)).trans (fn rfl (by decide)))
          have hkpy181 : Fvy28 21 = F 21 := ((hFvy28 21 (by decide)).trans (fn rfl (by decide)))
          have hkpy182 : Fvy28 23 = F 23 := ((hFvy28 23 (by decide)).trans (fn rfl (by decide)))
          have hkpy183 : Fvy28 24 = F 24 := ((hFvy28 24 (by decide)).trans (fn rfl (by decide)))
          exact z_iret C hr hlk dX10_count_117 (by decide) (by decide) ⟨vy159, rfl, rfl, rfl, by omega, ⟨_, _, hMy176, ⟨hkpy177, hkpy178, hkpy179, hkpy180, hkpy181, hkpy182, hkpy183⟩⟩, fun j j1 => by rw [hfvy28 _ (by omega)]; rw [egy25, va_up_ne _ _ (by omega)]⟩
        · refine z_tin (off := 95) (tgt := 118) C dX10_count_23 (by omega) (by omega) (by omega) rfl (by decide) ?_
          refine z_aload_n C 0 dX10_count_118 rfl ?_
          refine z_get (v := .ref (ad (i + 1))) C (lt_A0 hN rfl) hay1 hcvy28 rfl inA_X10 0 (by decide) q_1459 rfl rfl dX10_count_119 ?_
          refine z_iconst (z := 1) C dX10_count_122 rfl ?_
          have hgy184 := up_n egy25 ha1 (ne_o (i := i) (c := 1) (d := 0) rfl)
          have hgy185 := (hfvy28 (i + 1) (ne_o (i := i) (c := 1) (d := 0) rfl)).trans hgy184
          refine z_iald C (lt_A (c := 1) hN rfl) hay2 hgy185 (1) (by omega) (by omega) (by decide) dX10_count_123 ?_
          have hFy186 : ∀ f, f ≠ 12 → Fvy28 f = F f := fun f n12 => ((hFvy28 f n12).trans ((uZ_n _ _ n12).trans rfl))
          have hey187 : Fvy28 13 = F 13 := ((hFvy28 13 (by decide)).trans (fn rfl (by decide)))
          have hey188 : Fvy28 14 = F 14 := ((hFvy28 14 (by decide)).trans (fn rfl (by decide)))
          have hey189 : Fvy28 15 = F 15 := ((hFvy28 15 (by decide)).trans (fn rfl (by decide)))
          have hey190 : Fvy28 16 = F 16 := ((hFvy28 16 (by decide)).trans (fn rfl (by decide)))
          have hey191 : Fvy28 17 = F 17 := ((hFvy28 17 (by decide)).trans (fn rfl (by decide)))
          have hey192 : Fvy28 18 = F 18 := ((hFvy28 18 (by decide)).trans (fn rfl (by decide)))
          have hey193 : Fvy28 19 = F 19 := ((hFvy28 19 (by decide)).trans (fn rfl (by decide)))
          have hey194 : Fvy28 20 = F 20 := ((hFvy28 20 (by decide)).trans (fn rfl (by decide)))
          have hey195 : Fvy28 21 = F 21 := ((hFvy28 21 (by decide)).trans (fn rfl (by decide)))
          have hey196 : Fvy28 23 = F 23 := ((hFvy28 23 (by decide)).trans (fn rfl (by decide)))
          have hey197 : Fvy28 25 = F 25 := ((hFvy28 25 (by decide)).trans (fn rfl (by decide)))
          have hey198 : Fvy28 27 = F 27 := ((hFvy28 27 (by decide)).trans (fn rfl (by decide)))
          have hey199 : Fvy28 28 = F 28 := ((hFvy28 28 (by decide)).trans (fn rfl (by decide)))
          have hey200 : Fvy28 29 = F 29 := ((hFvy28 29 (by decide)).trans (fn rfl (by decide)))
          have hKy201 : okF Fvy28 := okF.mv hM.2.1 hey187 hey188 hey189 hey190 hey191 hey192 hey193 hey194 hey195 hey196 hey197 hey198 hey199 hey200
          have hMy202 : okMr cs ad gvy28 i (x + 1) Fvy28 r st op ai fa mu tb tp := okMr.upd hM hcvy28 hKy201 (fun f a => hFy186 f (by omega)) hgy185 (hA.mono (by omega)) (fun j a b => by
              exact Or.inl (by rw [hfvy28 _ (by omega)]; rw [egy25, va_up_ne _ _ (by omega)]))
          have hkpy203 : Fvy28 13 = F 13 := ((hFvy28 13 (by decide)).trans (fn rfl (by decide)))
          have hkpy204 : Fvy28 14 = F 14 := ((hFvy28 14 (by decide)).trans (fn rfl (by decide)))
          have hkpy205 : Fvy28 17 = F 17 := ((hFvy28 17 (by decide)).trans (fn rfl (by decide)))
          have hkpy206 : Fvy28 20 = F 20 := ((hFvy28 20 (by decide)).trans (fn rfl (by decide)))
          have hkpy207 : Fvy28 21 = F 21 := ((hFvy28 21 (by decide)).trans (fn rfl (by decide)))
          have hkpy208 : Fvy28 23 = F 23 := ((hFvy28 23 (by decide)).trans (fn rfl (by decide)))
          have hkpy209 : Fvy28 24 = F 24 := ((hFvy28 24 (by decide)).trans (fn rfl (by decide)))
          exact z_iret C hr hlk dX10_count_124 (by decide) (by decide) ⟨r (1), rfl, rfl, rfl, by omega, ⟨_, _, hMy202, ⟨hkpy203, hkpy204, hkpy205, hkpy206, hkpy207, hkpy208, hkpy209⟩⟩, fun j j1 => by rw [hfvy28 _ (by omega)]; rw [egy25, va_up_ne _ _ (by omega)]⟩
        · refine z_tin (off := 102) (tgt := 125) C dX10_count_23 (by omega) (by omega) (by omega) rfl (by decide) ?_
          refine z_aload_n C 0 dX10_count_125 rfl ?_
          have hgy210 := up_n egy25 ha1 (ne_o (i := i) (c := 1) (d := 0) rfl)
          have hgy211 := (hfvy28 (i + 1) (ne_o (i := i) (c := 1) (d := 0) rfl)).trans hgy210
          have hFy212 : ∀ f, f ≠ 12 → Fvy28 f = F f := fun f n12 => ((hFvy28 f n12).trans ((uZ_n _ _ n12).trans rfl))
          have hey213 : Fvy28 13 = F 13 := ((hFvy28 13 (by decide)).trans (fn rfl (by decide)))
          have hey214 : Fvy28 14 = F 14 := ((hFvy28 14 (by decide)).trans (fn rfl (by decide)))
          have hey215 : Fvy28 15 = F 15 := ((hFvy28 15 (by decide)).trans (fn rfl (by decide)))
          have hey216 : Fvy28 16 = F 16 := ((hFvy28 16 (by decide)).trans (fn rfl (by decide)))
          have hey217 : Fvy28 17 = F 17 := ((hFvy28 17 (by decide)).trans (fn rfl (by decide)))
          have hey218 : Fvy28 18 = F 18 := ((hFvy28 18 (by decide)).trans (fn rfl (by decide)))
          have hey219 : Fvy28 19 = F 19 := ((hFvy28 19 (by decide)).trans (fn rfl (by decide)))
          have hey220 : Fvy28 20 = F 20 := ((hFvy28 20 (by decide)).trans (fn rfl (by decide)))
          have hey221 : Fvy28 21 = F 21 := ((hFvy28 21 (by decide)).trans (fn rfl (by decide)))
          have hey222 : Fvy28 23 = F 23 := ((hFvy28 23 (by decide)).trans (fn rfl (by decide)))
          have hey223 : Fvy28 25 = F 25 := ((hFvy28 25 (by decide)).trans (fn rfl (by decide)))
          have hey224 : Fvy28 27 = F 27 := ((hFvy28 27 (by decide)).trans (fn rfl (by decide)))
          have hey225 : Fvy28 28 = F 28 := ((hFvy28 28 (by decide)).trans (fn rfl (by decide)))
          have hey226 : Fvy28 29 = F 29 := ((hFvy28 29 (by decide)).trans (fn rfl (by decide)))
          have hKy227 : okF Fvy28 := okF.mv hM.2.1 hey213 hey214 hey215 hey216 hey217 hey218 hey219 hey220 hey221 hey222 hey223 hey224 hey225 hey226
          have hMy228 : okMr cs ad gvy28 i (x) Fvy28 r st op ai fa mu tb tp := okMr.upd hM hcvy28 hKy227 (fun f a => hFy212 f (by omega)) hgy211 (hA.mono (by omega)) (fun j a b => by
              exact Or.inl (by rw [hfvy28 _ (by omega)]; rw [egy25, va_up_ne _ _ (by omega)]))
          refine z_cV (As := []) (rest := []) (ci := 12) C (c_X10_allRunoff l D A cs tt N ad _ i hN x hx _ _ hMy228 ) (lt_A0 hN rfl) hay1 hcvy28 rfl rfl mv_yX10_allRunoff q_1737 hd_yX10_allRunoff (by decide) (Nat.le_of_ble_eq_true rfl) (by decide) dX10_count_126 rfl (kI0 fun vy229 gvy229 hvy229 => ?_)
          obtain ⟨hvy229, rfl⟩ := hvy229
          have hFy230 : ∀ f, f ≠ 12 → Fvy28 f = F f := fun f n12 => ((hFvy28 f n12).trans ((uZ_n _ _ n12).trans rfl))
          have hey231 : Fvy28 13 = F 13 := ((hFvy28 13 (by decide)).trans (fn rfl (by decide)))
          have hey232 : Fvy28 14 = F 14 := ((hFvy28 14 (by decide)).trans (fn rfl (by decide)))
          have hey233 : Fvy28 15 = F 15 := ((hFvy28 15 (by decide)).trans (fn rfl (by decide)))
          have hey234 : Fvy28 16 = F 16 := ((hFvy28 16 (by decide)).trans (fn rfl (by decide)))
          have hey235 : Fvy28 17 = F 17 := ((hFvy28 17 (by decide)).trans (fn rfl (by decide)))
          have hey236 : Fvy28 18 = F 18 := ((hFvy28 18 (by decide)).trans (fn rfl (by decide)))
          have hey237 : Fvy28 19 = F 19 := ((hFvy28 19 (by decide)).trans (fn rfl (by decide)))
          have hey238 : Fvy28 20 = F 20 := ((hFvy28 20 (by decide)).trans (fn rfl (by decide)))
          have hey239 : Fvy28 21 = F 21 := ((hFvy28 21 (by decide)).trans (fn rfl (by decide)))
          have hey240 : Fvy28 23 = F 23 := ((hFvy28 23 (by decide)).trans (fn rfl (by decide)))
          have hey241 : Fvy28 25 = F 25 := ((hFvy28 25 (by decide)).trans (fn rfl (by decide)))
          have hey242 : Fvy28 27 = F 27 := ((hFvy28 27 (by decide)).trans (fn rfl (by decide)))
          have hey243 : Fvy28 28 = F 28 := ((hFvy28 28 (by decide)).trans (fn rfl (by decide)))
          have hey244 : Fvy28 29 = F 29 := ((hFvy28 29 (by decide)).trans (fn rfl (by decide)))
          have hKy245 : okF Fvy28 := okF.mv hM.2.1 hey231 hey232 hey233 hey234 hey235 hey236 hey237 hey238 hey239 hey240 hey241 hey242 hey243 hey244
          have hMy246 : okMr cs ad gvy28 i (x + 1) Fvy28 r st op ai fa mu tb tp := okMr.upd hM hcvy28 hKy245 (fun f a => hFy230 f (by omega)) hgy211 (hA.mono (by omega)) (fun j a b => by
              exact Or.inl (by rw [hfvy28 _ (by omega)]; rw [egy25, va_up_ne _ _ (by omega)]))
          have hkpy247 : Fvy28 13 = F 13 := ((hFvy28 13 (by decide)).trans (fn rfl (by decide)))
          have hkpy248 : Fvy28 14 = F 14 := ((hFvy28 14 (by decide)).trans (fn rfl (by decide)))
          have hkpy249 : Fvy28 17 = F 17 := ((hFvy28 17 (by decide)).trans (fn rfl (by decide)))
          have hkpy250 : Fvy28 20 = F 20 := ((hFvy28 20 (by decide)).trans (fn rfl (by decide)))
          have hkpy251 : Fvy28 21 = F 21 := ((hFvy28 21 (by decide)).trans (fn rfl (by decide)))
          have hkpy252 : Fvy28 23 = F 23 := ((hFvy28 23 (by decide)).trans (fn rfl (by decide)))
          have hkpy253 : Fvy28 24 = F 24 := ((hFvy28 24 (by decide)).trans (fn rfl (by decide)))
          exact z_iret C hr hlk dX10_count_129 (by decide) (by decide) ⟨vy229, rfl, rfl, rfl, by omega, ⟨_, _, hMy246, ⟨hkpy247, hkpy248, hkpy249, hkpy250, hkpy251, hkpy252, hkpy253⟩⟩, fun j j1 => by rw [hfvy28 _ (by omega)]; rw [egy25, va_up_ne _ _ (by omega)]⟩
        · refine z_tin (off := 107) (tgt := 130) C dX10_count_23 (by omega) (by omega) (by omega) rfl (by decide) ?_
          refine z_aload_n C 0 dX10_count_130 rfl ?_
          refine z_get (v := .ref (ad (i + 1))) C (lt_A0 hN rfl) hay1 hcvy28 rfl inA_X10 0 (by decide) q_1459 rfl rfl dX10_count_131 ?_
          refine z_iconst (z := 2) C dX10_count_134 rfl ?_
          have hgy254 := up_n egy25 ha1 (ne_o (i := i) (c := 1) (d := 0) rfl)
          have hgy255 := (hfvy28 (i + 1) (ne_o (i := i) (c := 1) (d := 0) rfl)).trans hgy254
          refine z_iald C (lt_A (c := 1) hN rfl) hay2 hgy255 (2) (by omega) (by omega) (by decide) dX10_count_135 ?_
          obtain ⟨xy256, exy257, hxy258⟩ := zI_of (zI (r (2)))
          rw [exy257]
          have hFy259 : ∀ f, f ≠ 12 → Fvy28 f = F f := fun f n12 => ((hFvy28 f n12).trans ((uZ_n _ _ n12).trans rfl))
          have hey260 : Fvy28 13 = F 13 := ((hFvy28 13 (by decide)).trans (fn rfl (by decide)))
          have hey261 : Fvy28 14 = F 14 := ((hFvy28 14 (by decide)).trans (fn rfl (by decide)))
          have hey262 : Fvy28 15 = F 15 := ((hFvy28 15 (by decide)).trans (fn rfl (by decide)))
          have hey263 : Fvy28 16 = F 16 := ((hFvy28 16 (by decide)).trans (fn rfl (by decide)))
          have hey264 : Fvy28 17 = F 17 := ((hFvy28 17 (by decide)).trans (fn rfl (by decide)))
          have hey265 : Fvy28 18 = F 18 := ((hFvy28 18 (by decide)).trans (fn rfl (by decide)))
          have hey266 : Fvy28 19 = F 19 := ((hFvy28 19 (by decide)).trans (fn rfl (by decide)))
          have hey267 : Fvy28 20 = F 20 := ((hFvy28 20 (by decide)).trans (fn rfl (by decide)))
          have hey268 : Fvy28 21 = F 21 := ((hFvy28 21 (by decide)).trans (fn rfl (by decide)))
          have hey269 : Fvy28 23 = F 23 := ((hFvy28 23 (by decide)).trans (fn rfl (by decide)))
          have hey270 : Fvy28 25 = F 25 := ((hFvy28 25 (by decide)).trans (fn rfl (by decide)))
          have hey271 : Fvy28 27 = F 27 := ((hFvy28 27 (by decide)).trans (fn rfl (by decide)))
          have hey272 : Fvy28 28 = F 28 := ((hFvy28 28 (by decide)).trans (fn rfl (by decide)))
          have hey273 : Fvy28 29 = F 29 := ((hFvy28 29 (by decide)).trans (fn rfl (by decide)))
          have hKy274 : okF Fvy28 := okF.mv hM.2.1 hey260 hey261 hey262 hey263 hey264 hey265 hey266 hey267 hey268 hey269 hey270 hey271 hey272 hey273
          have hMy275 : okMr cs ad gvy28 i (x + 1) Fvy28 r st op ai fa mu tb tp := okMr.upd hM hcvy28 hKy274 (fun f a => hFy259 f (by omega)) hgy255 (hA.mono (by omega)) (fun j a b => by
              exact Or.inl (by rw [hfvy28 _ (by omega)]; rw [egy25, va_up_ne _ _ (by omega)]))
          have hkpy276 : Fvy28 13 = F 13 := ((hFvy28 13 (by decide)).trans (fn rfl (by decide)))
          have hkpy277 : Fvy28 14 = F 14 := ((hFvy28 14 (by decide)).trans (fn rfl (by decide)))
          have hkpy278 : Fvy28 17 = F 17 := ((hFvy28 17 (by decide)).trans (fn rfl (by decide)))
          have hkpy279 : Fvy28 20 = F 20 := ((hFvy28 20 (by decide)).trans (fn rfl (by decide)))
          have hkpy280 : Fvy28 21 = F 21 := ((hFvy28 21 (by decide)).trans (fn rfl (by decide)))
          have hkpy281 : Fvy28 23 = F 23 := ((hFvy28 23 (by decide)).trans (fn rfl (by decide)))
          have hkpy282 : Fvy28 24 = F 24 := ((hFvy28 24 (by decide)).trans (fn rfl (by decide)))
          exact z_iret C hr hlk dX10_count_136 (by decide) (by decide) ⟨xy256, rfl, rfl, rfl, by omega, ⟨_, _, hMy275, ⟨hkpy276, hkpy277, hkpy278, hkpy279, hkpy280, hkpy281, hkpy282⟩⟩, fun j j1 => by rw [hfvy28 _ (by omega)]; rw [egy25, va_up_ne _ _ (by omega)]⟩
        · refine z_tin (off := 114) (tgt := 137) C dX10_count_23 (by omega) (by omega) (by omega) rfl (by decide) ?_
          refine z_aload_n C 0 dX10_count_137 rfl ?_
          refine z_get (v := .ref (ad (i + 1))) C (lt_A0 hN rfl) hay1 hcvy28 rfl inA_X10 0 (by decide) q_1459 rfl rfl dX10_count_138 ?_
          refine z_iconst (z := 3) C dX10_count_141 rfl ?_
          have hgy283 := up_n egy25 ha1 (ne_o (i := i) (c := 1) (d := 0) rfl)
          have hgy284 := (hfvy28 (i + 1) (ne_o (i := i) (c := 1) (d := 0) rfl)).trans hgy283
          refine z_iald C (lt_A (c := 1) hN rfl) hay2 hgy284 (3) (by omega) (by omega) (by decide) dX10_count_142 ?_
          obtain ⟨xy285, exy286, hxy287⟩ := zI_of (zI (r (3)))
          rw [exy286]
          have hFy288 : ∀ f, f ≠ 12 → Fvy28 f = F f := fun f n12 => ((hFvy28 f n12).trans ((uZ_n _ _ n12).trans rfl))
          have hey289 : Fvy28 13 = F 13 := ((hFvy28 13 (by decide)).trans (fn rfl (by decide)))
          have hey290 : Fvy28 14 = F 14 := ((hFvy28 14 (by decide)).trans (fn rfl (by decide)))
          have hey291 : Fvy28 15 = F 15 := ((hFvy28 15 (by decide)).trans (fn rfl (by decide)))
          have hey292 : Fvy28 16 = F 16 := ((hFvy28 16 (by decide)).trans (fn rfl (by decide)))
          have hey293 : Fvy28 17 = F 17 := ((hFvy28 17 (by decide)).trans (fn rfl (by decide)))
          have hey294 : Fvy28 18 = F 18 := ((hFvy28 18 (by decide)).trans (fn rfl (by decide)))
          have hey295 : Fvy28 19 = F 19 := ((hFvy28 19 (by decide)).trans (fn rfl (by decide)))
          have hey296 : Fvy28 20 = F 20 := ((hFvy28 20 (by decide)).trans (fn rfl (by decide)))
          have hey297 : Fvy28 21 = F 21 := ((hFvy28 21 (by decide)).trans (fn rfl (by decide)))
          have hey298 : Fvy28 23 = F 23 := ((hFvy28 23 (by decide)).trans (fn rfl (by decide)))
          have hey299 : Fvy28 25 = F 25 := ((hFvy28 25 (by decide)).trans (fn rfl (by decide)))
          have hey300 : Fvy28 27 = F 27 := ((hFvy28 27 (by decide)).trans (fn rfl (by decide)))
          have hey301 : Fvy28 28 = F 28 := ((hFvy28 28 (by decide)).trans (fn rfl (by decide)))
          have hey302 : Fvy28 29 = F 29 := ((hFvy28 29 (by decide)).trans (fn rfl (by decide)))
          have hKy303 : okF Fvy28 := okF.mv hM.2.1 hey289 hey290 hey291 hey292 hey293 hey294 hey295 hey296 hey297 hey298 hey299 hey300 hey301 hey302
          have hMy304 : okMr cs ad gvy28 i (x + 1) Fvy28 r st op ai fa mu tb tp := okMr.upd hM hcvy28 hKy303 (fun f a => hFy288 f (by omega)) hgy284 (hA.mono (by omega)) (fun j a b => by
              exact Or.inl (by rw [hfvy28 _ (by omega)]; rw [egy25, va_up_ne _ _ (by omega)]))
          have hkpy305 : Fvy28 13 = F 13 := ((hFvy28 13 (by decide)).trans (fn rfl (by decide)))
          have hkpy306 : Fvy28 14 = F 14 := ((hFvy28 14 (by decide)).trans (fn rfl (by decide)))
          have hkpy307 : Fvy28 17 = F 17 := ((hFvy28 17 (by decide)).trans (fn rfl (by decide)))
          have hkpy308 : Fvy28 20 = F 20 := ((hFvy28 20 (by decide)).trans (fn rfl (by decide)))
          have hkpy309 : Fvy28 21 = F 21 := ((hFvy28 21 (by decide)).trans (fn rfl (by decide)))
          have hkpy310 : Fvy28 23 = F 23 := ((hFvy28 23 (by decide)).trans (fn rfl (by decide)))
          have hkpy311 : Fvy28 24 = F 24 := ((hFvy28 24 (by decide)).trans (fn rfl (by decide)))
          exact z_iret C hr hlk dX10_count_143 (by decide) (by decide) ⟨xy285, rfl, rfl, rfl, by omega, ⟨_, _, hMy304, ⟨hkpy305, hkpy306, hkpy307, hkpy308, hkpy309, hkpy310, hkpy311⟩⟩, fun j j1 => by rw [hfvy28 _ (by omega)]; rw [egy25, va_up_ne _ _ (by omega)]⟩
        · refine z_tin (off := 121) (tgt := 144) C dX10_count_23 (by omega) (by omega) (by omega) rfl (by decide) ?_
          refine z_aload_n C 0 dX10_count_144 rfl ?_
          refine z_get (v := .ref (ad (i + 1))) C (lt_A0 hN rfl) hay1 hcvy28 rfl inA_X10 0 (by decide) q_1459 rfl rfl dX10_count_145 ?_
          refine z_iconst (z := 4) C dX10_count_148 rfl ?_
          have hgy312 := up_n egy25 ha1 (ne_o (i := i) (c := 1) (d := 0) rfl)
          have hgy313 := (hfvy28 (i + 1) (ne_o (i := i) (c := 1) (d := 0) rfl)).trans hgy312
          refine z_iald C (lt_A (c := 1) hN rfl) hay2 hgy313 (4) (by omega) (by omega) (by decide) dX10_count_149 ?_
          obtain ⟨xy314, exy315, hxy316⟩ := zI_of (zI (r (4)))
          rw [exy315]
          have hFy317 : ∀ f, f ≠ 12 → Fvy28 f = F f := fun f n12 => ((hFvy28 f n12).trans ((uZ_n _ _ n12).trans rfl))
          have hey318 : Fvy28 13 = F 13 := ((hFvy28 13 (by decide)).trans (fn rfl (by decide)))
          have hey319 : Fvy28 14 = F 14 := ((hFvy28 14 (by decide)).trans (fn rfl (by decide)))
          have hey320 : Fvy28 15 = F 15 := ((hFvy28 15 (by decide)).trans (fn rfl (by decide)))
          have hey321 : Fvy28 16 = F 16 := ((hFvy28 16 (by decide)).trans (fn rfl (by decide)))
          have hey322 : Fvy28 17 = F 17 := ((hFvy28 17 (by decide)).trans (fn rfl (by decide)))
          have hey323 : Fvy28 18 = F 18 := ((hFvy28 18 (by decide)).trans (fn rfl (by decide)))
          have hey324 : Fvy28 19 = F 19 := ((hFvy28 19 (by decide)).trans (fn rfl (by decide)))
          have hey325 : Fvy28 20 = F 20 := ((hFvy28 20 (by decide)).trans (fn rfl (by decide)))
          have hey326 : Fvy28 21 = F 21 := ((hFvy28 21 (by decide)).trans (fn rfl (by decide)))
          have hey327 : Fvy28 23 = F 23 := ((hFvy28 23 (by decide)).trans (fn rfl (by decide)))
          have hey328 : Fvy28 25 = F 25 := ((hFvy28 25 (by decide)).trans (fn rfl (by decide)))
          have hey329 : Fvy28 27 = F 27 := ((hFvy28 27 (by decide)).trans (fn rfl (by decide)))
          have hey330 : Fvy28 28 = F 28 := ((hFvy28 28 (by decide)).trans (fn rfl (by decide)))
          have hey331 : Fvy28 29 = F 29 := ((hFvy28 29 (by decide)).trans (fn rfl (by decide)))
          have hKy332 : okF Fvy28 := okF.mv hM.2.1 hey318 hey319 hey320 hey321 hey322 hey323 hey324 hey325 hey326 hey327 hey328 hey329 hey330 hey331
          have hMy333 : okMr cs ad gvy28 i (x + 1) Fvy28 r st op ai fa mu tb tp := okMr.upd hM hcvy28 hKy332 (fun f a => hFy317 f (by omega)) hgy313 (hA.mono (by omega)) (fun j a b => by
              exact Or.inl (by rw [hfvy28 _ (by omega)]; rw [egy25, va_up_ne _ _ (by omega)]))
          have hkpy334 : Fvy28 13 = F 13 := ((hFvy28 13 (by decide)).trans (fn rfl (by decide)))
          have hkpy335 : Fvy28 14 = F 14 := ((hFvy28 14 (by decide)).trans (fn rfl (by decide)))
          have hkpy336 : Fvy28 17 = F 17 := ((hFvy28 17 (by decide)).trans (fn rfl (by decide)))
          have hkpy337 : Fvy28 20 = F 20 := ((hFvy28 20 (by decide)).trans (fn rfl (by decide)))
          have hkpy338 : Fvy28 21 = F 21 := ((hFvy28 21 (by decide)).trans (fn rfl (by decide)))
          have hkpy339 : Fvy28 23 = F 23 := ((hFvy28 23 (by decide)).trans (fn rfl (by decide)))
          have hkpy340 : Fvy28 24 = F 24 := ((hFvy28 24 (by decide)).trans (fn rfl (by decide)))
          exact z_iret C hr hlk dX10_count_150 (by decide) (by decide) ⟨xy314, rfl, rfl, rfl, by omega, ⟨_, _, hMy333, ⟨hkpy334, hkpy335, hkpy336, hkpy337, hkpy338, hkpy339, hkpy340⟩⟩, fun j j1 => by rw [hfvy28 _ (by omega)]; rw [egy25, va_up_ne _ _ (by omega)]⟩
        · refine z_tin (off := 128) (tgt := 151) C dX10_count_23 (by omega) (by omega) (by omega) rfl (by decide) ?_
          refine z_aload_n C 0 dX10_count_151 rfl ?_
          have hgy341 := up_n egy25 ha1 (ne_o (i := i) (c := 1) (d := 0) rfl)
          have hgy342 := (hfvy28 (i + 1) (ne_o (i := i) (c := 1) (d := 0) rfl)).trans hgy341
          have hFy343 : ∀ f, f ≠ 12 → Fvy28 f = F f := fun f n12 => ((hFvy28 f n12).trans ((uZ_n _ _ n12).trans rfl))
          have hey344 : Fvy28 13 = F 13 := ((hFvy28 13 (by decide)).trans (fn rfl (by decide)))
          have hey345 : Fvy28 14 = F 14 := ((hFvy28 14 (by decide)).trans (fn rfl (by decide)))
          have hey346 : Fvy28 15 = F 15 := ((hFvy28 15 (by decide)).trans (fn rfl (by decide)))
          have hey347 : Fvy28 16 = F 16 := ((hFvy28 16 (by decide)).trans (fn rfl (by decide)))
          have hey348 : Fvy28 17 = F 17 := ((hFvy28 17 (by decide)).trans (fn rfl (by decide)))
          have hey349 : Fvy28 18 = F 18 := ((hFvy28 18 (by decide)).trans (fn rfl (by decide)))
          have hey350 : Fvy28 19 = F 19 := ((hFvy28 19 (by decide)).trans (fn rfl (by decide)))
          have hey351 : Fvy28 20 = F 20 := ((hFvy28 20 (by decide)).trans (fn rfl (by decide)))
          have hey352 : Fvy28 21 = F 21 := ((hFvy28 21 (by decide)).trans (fn rfl (by decide)))
          have hey353 : Fvy28 23 = F 23 := ((hFvy28 23 (by decide)).trans (fn rfl (by decide)))
          have hey354 : Fvy28 25 = F 25 := ((hFvy28 25 (by decide)).trans (fn rfl (by decide)))
          have hey355 : Fvy28 27 = F 27 := ((hFvy28 27 (by decide)).trans (fn rfl (by decide)))
          have hey356 : Fvy28 28 = F 28 := ((hFvy28 28 (by decide)).trans (fn rfl (by decide)))
          have hey357 : Fvy28 29 = F 29 := ((hFvy28 29 (by decide)).trans (fn rfl (by decide)))
          have hKy358 : okF Fvy28 := okF.mv hM.2.1 hey344 hey345 hey346 hey347 hey348 hey349 hey350 hey351 hey352 hey353 hey354 hey355 hey356 hey357
          have hMy359 : okMr cs ad gvy28 i (x) Fvy28 r st op ai fa mu tb tp := okMr.upd hM hcvy28 hKy358 (fun f a => hFy343 f (by omega)) hgy342 (hA.mono (by omega)) (fun j a b => by
              exact Or.inl (by rw [hfvy28 _ (by omega)]; rw [egy25, va_up_ne _ _ (by omega)]))
          refine z_cV (As := []) (rest := []) (ci := 12) C (c_X10_allWeight l D A cs tt N ad _ i hN x hx _ _ hMy359 ) (lt_A0 hN rfl) hay1 hcvy28 rfl rfl mv_yX10_allWeight q_1741 hd_yX10_allWeight (by decide) (Nat.le_of_ble_eq_true rfl) (by decide) dX10_count_152 rfl (kI0 fun vy360 gvy360 hvy360 => ?_)
          obtain ⟨hvy360, rfl⟩ := hvy360
          have hFy361 : ∀ f, f ≠ 12 → Fvy28 f = F f := fun f n12 => ((hFvy28 f n12).trans ((uZ_n _ _ n12).trans rfl))
          have hey362 : Fvy28 13 = F 13 := ((hFvy28 13 (by decide)).trans (fn rfl (by decide)))
          have hey363 : Fvy28 14 = F 14 := ((hFvy28 14 (by decide)).trans (fn rfl (by decide)))
          have hey364 : Fvy28 15 = F 15 := ((hFvy28 15 (by decide)).trans (fn rfl (by decide)))
          have hey365 : Fvy28 16 = F 16 := ((hFvy28 16 (by decide)).trans (fn rfl (by decide)))
          have hey366 : Fvy28 17 = F 17 := ((hFvy28 17 (by decide)).trans (fn rfl (by decide)))
          have hey367 : Fvy28 18 = F 18 := ((hFvy28 18 (by decide)).trans (fn rfl (by decide)))
          have hey368 : Fvy28 19 = F 19 := ((hFvy28 19 (by decide)).trans (fn rfl (by decide)))
          have hey369 : Fvy28 20 = F 20 := ((hFvy28 20 (by decide)).trans (fn rfl (by decide)))
          have hey370 : Fvy28 21 = F 21 := ((hFvy28 21 (by decide)).trans (fn rfl (by decide)))
          have hey371 : Fvy28 23 = F 23 := ((hFvy28 23 (by decide)).trans (fn rfl (by decide)))
          have hey372 : Fvy28 25 = F 25 := ((hFvy28 25 (by decide)).trans (fn rfl (by decide)))
          have hey373 : Fvy28 27 = F 27 := ((hFvy28 27 (by decide)).trans (fn rfl (by decide)))
          have hey374 : Fvy28 28 = F 28 := ((hFvy28 28 (by decide)).trans (fn rfl (by decide)))
          have hey375 : Fvy28 29 = F 29 := ((hFvy28 29 (by decide)).trans (fn rfl (by decide)))
          have hKy376 : okF Fvy28 := okF.mv hM.2.1 hey362 hey363 hey364 hey365 hey366 hey367 hey368 hey369 hey370 hey371 hey372 hey373 hey374 hey375
          have hMy377 : okMr cs ad gvy28 i (x + 1) Fvy28 r st op ai fa mu tb tp := okMr.upd hM hcvy28 hKy376 (fun f a => hFy361 f (by omega)) hgy342 (hA.mono (by omega)) (fun j a b => by
              exact Or.inl (by rw [hfvy28 _ (by omega)]; rw [egy25, va_up_ne _ _ (by omega)]))
          have hkpy378 : Fvy28 13 = F 13 := ((hFvy28 13 (by decide)).trans (fn rfl (by decide)))
          have hkpy379 : Fvy28 14 = F 14 := ((hFvy28 14 (by decide)).trans (fn rfl (by decide)))
          have hkpy380 : Fvy28 17 = F 17 := ((hFvy28 17 (by decide)).trans (fn rfl (by decide)))
          have hkpy381 : Fvy28 20 = F 20 := ((hFvy28 20 (by decide)).trans (fn rfl (by decide)))
          have hkpy382 : Fvy28 21 = F 21 := ((hFvy28 21 (by decide)).trans (fn rfl (by decide)))
          have hkpy383 : Fvy28 23 = F 23 := ((hFvy28 23 (by decide)).trans (fn rfl (by decide)))
          have hkpy384 : Fvy28 24 = F 24 := ((hFvy28 24 (by decide)).trans (fn rfl (by decide)))
          exact z_iret C hr hlk dX10_count_155 (by decide) (by decide) ⟨vy360, rfl, rfl, rfl, by omega, ⟨_, _, hMy377, ⟨hkpy378, hkpy379, hkpy380, hkpy381, hkpy382, hkpy383, hkpy384⟩⟩, fun j j1 => by rw [hfvy28 _ (by omega)]; rw [egy25, va_up_ne _ _ (by omega)]⟩
        · refine z_tin (off := 133) (tgt := 156) C dX10_count_23 (by omega) (by omega) (by omega) rfl (by decide) ?_
          refine z_aload_n C 0 dX10_count_156 rfl ?_
          have hgy385 := up_n egy25 ha1 (ne_o (i := i) (c := 1) (d := 0) rfl)
          have hgy386 := (hfvy28 (i + 1) (ne_o (i := i) (c := 1) (d := 0) rfl)).trans hgy385
          have hFy387 : ∀ f, f ≠ 12 → Fvy28 f = F f := fun f n12 => ((hFvy28 f n12).trans ((uZ_n _ _ n12).trans rfl))
          have hey388 : Fvy28 13 = F 13 := ((hFvy28 13 (by decide)).trans (fn rfl (by decide)))
          have hey389 : Fvy28 14 = F 14 := ((hFvy28 14 (by decide)).trans (fn rfl (by decide)))
          have hey390 : Fvy28 15 = F 15 := ((hFvy28 15 (by decide)).trans (fn rfl (by decide)))
          have hey391 : Fvy28 16 = F 16 := ((hFvy28 16 (by decide)).trans (fn rfl (by decide)))
          have hey392 : Fvy28 17 = F 17 := ((hFvy28 17 (by decide)).trans (fn rfl (by decide)))
          have hey393 : Fvy28 18 = F 18 := ((hFvy28 18 (by decide)).trans (fn rfl (by decide)))
          have hey394 : Fvy28 19 = F 19 := ((hFvy28 19 (by decide)).trans (fn rfl (by decide)))
          have hey395 : Fvy28 20 = F 20 := ((hFvy28 20 (by decide)).trans (fn rfl (by decide)))
          have hey396 : Fvy28 21 = F 21 := ((hFvy28 21 (by decide)).trans (fn rfl (by decide)))
          have hey397 : Fvy28 23 = F 23 := ((hFvy28 23 (by decide)).trans (fn rfl (by decide)))
          have hey398 : Fvy28 25 = F 25 := ((hFvy28 25 (by decide)).trans (fn rfl (by decide)))
          have hey399 : Fvy28 27 = F 27 := ((hFvy28 27 (by decide)).trans (fn rfl (by decide)))
          have hey400 : Fvy28 28 = F 28 := ((hFvy28 28 (by decide)).trans (fn rfl (by decide)))
          have hey401 : Fvy28 29 = F 29 := ((hFvy28 29 (by decide)).trans (fn rfl (by decide)))
          have hKy402 : okF Fvy28 := okF.mv hM.2.1 hey388 hey389 hey390 hey391 hey392 hey393 hey394 hey395 hey396 hey397 hey398 hey399 hey400 hey401
          have hMy403 : okMr cs ad gvy28 i (x) Fvy28 r st op ai fa mu tb tp := okMr.upd hM hcvy28 hKy402 (fun f a => hFy387 f (by omega)) hgy386 (hA.mono (by omega)) (fun j a b => by
              exact Or.inl (by rw [hfvy28 _ (by omega)]; rw [egy25, va_up_ne _ _ (by omega)]))
          refine z_cV (As := []) (rest := []) (ci := 12) C (c_X10_worst l D A cs tt N ad _ i hN x hx _ _ hMy403 ) (lt_A0 hN rfl) hay1 hcvy28 rfl rfl mv_yX10_worst q_1756 hd_yX10_worst (by decide) (Nat.le_of_ble_eq_true rfl) (by decide) dX10_count_157 rfl (kI0 fun vy404 gvy404 hvy404 => ?_)
          obtain ⟨hvy404, rfl⟩ := hvy404
          have hFy405 : ∀ f, f ≠ 12 → Fvy28 f = F f := fun f n12 => ((hFvy28 f n12).trans ((uZ_n _ _ n12).trans rfl))
          have hey406 : Fvy28 13 = F 13 := ((hFvy28 13 (by decide)).trans (fn rfl (by decide)))
          have hey407 : Fvy28 14 = F 14 := ((hFvy28 14 (by decide)).trans (fn rfl (by decide)))
          have hey408 : Fvy28 15 = F 15 := ((hFvy28 15 (by decide)).trans (fn rfl (by decide)))
          have hey409 : Fvy28 16 = F 16 := ((hFvy28 16 (by decide)).trans (fn rfl (by decide)))
          have hey410 : Fvy28 17 = F 17 := ((hFvy28 17 (by decide)).trans (fn rfl (by decide)))
          have hey411 : Fvy28 18 = F 18 := ((hFvy28 18 (by decide)).trans (fn rfl (by decide)))
          have hey412 : Fvy28 19 = F 19 := ((hFvy28 19 (by decide)).trans (fn rfl (by decide)))
          have hey413 : Fvy28 20 = F 20 := ((hFvy28 20 (by decide)).trans (fn rfl (by decide)))
          have hey414 : Fvy28 21 = F 21 := ((hFvy28 21 (by decide)).trans (fn rfl (by decide)))
          have hey415 : Fvy28 23 = F 23 := ((hFvy28 23 (by decide)).trans (fn rfl (by decide)))
          have hey416 : Fvy28 25 = F 25 := ((hFvy28 25 (by decide)).trans (fn rfl (by decide)))
          have hey417 : Fvy28 27 = F 27 := ((hFvy28 27 (by decide)).trans (fn rfl (by decide)))
          have hey418 : Fvy28 28 = F 28 := ((hFvy28 28 (by decide)).trans (fn rfl (by decide)))
          have hey419 : Fvy28 29 = F 29 := ((hFvy28 29 (by decide)).trans (fn rfl (by decide)))
          have hKy420 : okF Fvy28 := okF.mv hM.2.1 hey406 hey407 hey408 hey409 hey410 hey411 hey412 hey413 hey414 hey415 hey416 hey417 hey418 hey419
          have hMy421 : okMr cs ad gvy28 i (x + 1) Fvy28 r st op ai fa mu tb tp := okMr.upd hM hcvy28 hKy420 (fun f a => hFy405 f (by omega)) hgy386 (hA.mono (by omega)) (fun j a b => by
              exact Or.inl (by rw [hfvy28 _ (by omega)]; rw [egy25, va_up_ne _ _ (by omega)]))
          have hkpy422 : Fvy28 13 = F 13 := ((hFvy28 13 (by decide)).trans (fn rfl (by decide)))
          have hkpy423 : Fvy28 14 = F 14 := ((hFvy28 14 (by decide)).trans (fn rfl (by decide)))
          have hkpy424 : Fvy28 17 = F 17 := ((hFvy28 17 (by decide)).trans (fn rfl (by decide)))
          have hkpy425 : Fvy28 20 = F 20 := ((hFvy28 20 (by decide)).trans (fn rfl (by decide)))
          have hkpy426 : Fvy28 21 = F 21 := ((hFvy28 21 (by decide)).trans (fn rfl (by decide)))
          have hkpy427 : Fvy28 23 = F 23 := ((hFvy28 23 (by decide)).trans (fn rfl (by decide)))
          have hkpy428 : Fvy28 24 = F 24 := ((hFvy28 24 (by decide)).trans (fn rfl (by decide)))
          exact z_iret C hr hlk dX10_count_160 (by decide) (by decide) ⟨vy404, rfl, rfl, rfl, by omega, ⟨_, _, hMy421, ⟨hkpy422, hkpy423, hkpy424, hkpy425, hkpy426, hkpy427, hkpy428⟩⟩, fun j j1 => by rw [hfvy28 _ (by omega)]; rw [egy25, va_up_ne _ _ (by omega)]⟩
        · refine z_tin (off := 138) (tgt := 161) C dX10_count_23 (by omega) (by omega) (by omega) rfl (by decide) ?_
          refine z_aload_n C 0 dX10_count_161 rfl ?_
          refine z_get (v := .ref (ad (i + 1))) C (lt_A0 hN rfl) hay1 hcvy28 rfl inA_X10 0 (by decide) q_1459 rfl rfl dX10_count_162 ?_
          refine z_iconst (z := 5) C dX10_count_165 rfl ?_
          have hgy429 := up_n egy25 ha1 (ne_o (i := i) (c := 1) (d := 0) rfl)
          have hgy430 := (hfvy28 (i + 1) (ne_o (i := i) (c := 1) (d := 0) rfl)).trans hgy429
          refine z_iald C (lt_A (c := 1) hN rfl) hay2 hgy430 (5) (by omega) (by omega) (by decide) dX10_count_166 ?_
          have hFy431 : ∀ f, f ≠ 12 → Fvy28 f = F f := fun f n12 => ((hFvy28 f n12).trans ((uZ_n _ _ n12).trans rfl))
          have hey432 : Fvy28 13 = F 13 := ((hFvy28 13 (by decide)).trans (fn rfl (by decide)))
          have hey433 : Fvy28 14 = F 14 := ((hFvy28 14 (by decide)).trans (fn rfl (by decide)))
          have hey434 : Fvy28 15 = F 15 := ((hFvy28 15 (by decide)).trans (fn rfl (by decide)))
          have hey435 : Fvy28 16 = F 16 := ((hFvy28 16 (by decide)).trans (fn rfl (by decide)))
          have hey436 : Fvy28 17 = F 17 := ((hFvy28 17 (by decide)).trans (fn rfl (by decide)))
          have hey437 : Fvy28 18 = F 18 := ((hFvy28 18 (by decide)).trans (fn rfl (by decide)))
          have hey438 : Fvy28 19 = F 19 := ((hFvy28 19 (by decide)).trans (fn rfl (by decide)))
          have hey439 : Fvy28 20 = F 20 := ((hFvy28 20 (by decide)).trans (fn rfl (by decide)))
          have hey440 : Fvy28 21 = F 21 := ((hFvy28 21 (by decide)).trans (fn rfl (by decide)))
          have hey441 : Fvy28 23 = F 23 := ((hFvy28 23 (by decide)).trans (fn rfl (by decide)))
          have hey442 : Fvy28 25 = F 25 := ((hFvy28 25 (by decide)).trans (fn rfl (by decide)))
          have hey443 : Fvy28 27 = F 27 := ((hFvy28 27 (by decide)).trans (fn rfl (by decide)))
          have hey444 : Fvy28 28 = F 28 := ((hFvy28 28 (by decide)).trans (fn rfl (by decide)))
          have hey445 : Fvy28 29 = F 29 := ((hFvy28 29 (by decide)).trans (fn rfl (by decide)))
          have hKy446 : okF Fvy28 := okF.mv hM.2.1 hey432 hey433 hey434 hey435 hey436 hey437 hey438 hey439 hey440 hey441 hey442 hey443 hey444 hey445
          have hMy447 : okMr cs ad gvy28 i (x + 1) Fvy28 r st op ai fa mu tb tp := okMr.upd hM hcvy28 hKy446 (fun f a => hFy431 f (by omega)) hgy430 (hA.mono (by omega)) (fun j a b => by
              exact Or.inl (by rw [hfvy28 _ (by omega)]; rw [egy25, va_up_ne _ _ (by omega)]))
          have hkpy448 : Fvy28 13 = F 13 := ((hFvy28 13 (by decide)).trans (fn rfl (by decide)))
          have hkpy449 : Fvy28 14 = F 14 := ((hFvy28 14 (by decide)).trans (fn rfl (by decide)))
          have hkpy450 : Fvy28 17 = F 17 := ((hFvy28 17 (by decide)).trans (fn rfl (by decide)))
          have hkpy451 : Fvy28 20 = F 20 := ((hFvy28 20 (by decide)).trans (fn rfl (by decide)))
          have hkpy452 : Fvy28 21 = F 21 := ((hFvy28 21 (by decide)).trans (fn rfl (by decide)))
          have hkpy453 : Fvy28 23 = F 23 := ((hFvy28 23 (by decide)).trans (fn rfl (by decide)))
          have hkpy454 : Fvy28 24 = F 24 := ((hFvy28 24 (by decide)).trans (fn rfl (by decide)))
          exact z_iret C hr hlk dX10_count_167 (by decide) (by decide) ⟨r (5), rfl, rfl, rfl, by omega, ⟨_, _, hMy447, ⟨hkpy448, hkpy449, hkpy450, hkpy451, hkpy452, hkpy453, hkpy454⟩⟩, fun j j1 => by rw [hfvy28 _ (by omega)]; rw [egy25, va_up_ne _ _ (by omega)]⟩
        · refine z_tin (off := 145) (tgt := 168) C dX10_count_23 (by omega) (by omega) (by omega) rfl (by decide) ?_
          refine z_aload_n C 0 dX10_count_168 rfl ?_
          refine z_get (v := .int (zI (F 15))) C (lt_A0 hN rfl) hay1 hcvy28 rfl inA_X10 15 (by decide) q_1474 rfl (fv (F := Fvy28) (f := 15) ((hFvy28 15 (by decide)).trans (fn rfl (by decide)))) dX10_count_169 ?_
          have hgy455 := up_n egy25 ha1 (ne_o (i := i) (c := 1) (d := 0) rfl)
          have hgy456 := (hfvy28 (i + 1) (ne_o (i := i) (c := 1) (d := 0) rfl)).trans hgy455
          have hFy457 : ∀ f, f ≠ 12 → Fvy28 f = F f := fun f n12 => ((hFvy28 f n12).trans ((uZ_n _ _ n12).trans rfl))
          have hey458 : Fvy28 13 = F 13 := ((hFvy28 13 (by decide)).trans (fn rfl (by decide)))
          have hey459 : Fvy28 14 = F 14 := ((hFvy28 14 (by decide)).trans (fn rfl (by decide)))
          have hey460 : Fvy28 15 = F 15 := ((hFvy28 15 (by decide)).trans (fn rfl (by decide)))
          have hey461 : Fvy28 16 = F 16 := ((hFvy28 16 (by decide)).trans (fn rfl (by decide)))
          have hey462 : Fvy28 17 = F 17 := ((hFvy28 17 (by decide)).trans (fn rfl (by decide)))
          have hey463 : Fvy28 18 = F 18 := ((hFvy28 18 (by decide)).trans (fn rfl (by decide)))
          have hey464 : Fvy28 19 = F 19 := ((hFvy28 19 (by decide)).trans (fn rfl (by decide)))
          have hey465 : Fvy28 20 = F 20 := ((hFvy28 20 (by decide)).trans (fn rfl (by decide)))
          have hey466 : Fvy28 21 = F 21 := ((hFvy28 21 (by decide)).trans (fn rfl (by decide)))
          have hey467 : Fvy28 23 = F 23 := ((hFvy28 23 (by decide)).trans (fn rfl (by decide)))
          have hey468 : Fvy28 25 = F 25 := ((hFvy28 25 (by decide)).trans (fn rfl (by decide)))
          have hey469 : Fvy28 27 = F 27 := ((hFvy28 27 (by decide)).trans (fn rfl (by decide)))
          have hey470 : Fvy28 28 = F 28 := ((hFvy28 28 (by decide)).trans (fn rfl (by decide)))
          have hey471 : Fvy28 29 = F 29 := ((hFvy28 29 (by decide)).trans (fn rfl (by decide)))
          have hKy472 : okF Fvy28 := okF.mv hM.2.1 hey458 hey459 hey460 hey461 hey462 hey463 hey464 hey465 hey466 hey467 hey468 hey469 hey470 hey471
          have hMy473 : okMr cs ad gvy28 i (x + 1) Fvy28 r st op ai fa mu tb tp := okMr.upd hM hcvy28 hKy472 (fun f a => hFy457 f (by omega)) hgy456 (hA.mono (by omega)) (fun j a b => by
              exact Or.inl (by rw [hfvy28 _ (by omega)]; rw [egy25, va_up_ne _ _ (by omega)]))
          have hkpy474 : Fvy28 13 = F 13 := ((hFvy28 13 (by decide)).trans (fn rfl (by decide)))
          have hkpy475 : Fvy28 14 = F 14 := ((hFvy28 14 (by decide)).trans (fn rfl (by decide)))
          have hkpy476 : Fvy28 17 = F 17 := ((hFvy28 17 (by decide)).trans (fn rfl (by decide)))
          have hkpy477 : Fvy28 20 = F 20 := ((hFvy28 20 (by decide)).trans (fn rfl (by decide)))
          have hkpy478 : Fvy28 21 = F 21 := ((hFvy28 21 (by decide)).trans (fn rfl (by decide)))
          have hkpy479 : Fvy28 23 = F 23 := ((hFvy28 23 (by decide)).trans (fn rfl (by decide)))
          have hkpy480 : Fvy28 24 = F 24 := ((hFvy28 24 (by decide)).trans (fn rfl (by decide)))
          exact z_iret C hr hlk dX10_count_172 (by decide) (by decide) ⟨F 15, rfl, rfl, rfl, by omega, ⟨_, _, hMy473, ⟨hkpy474, hkpy475, hkpy476, hkpy477, hkpy478, hkpy479, hkpy480⟩⟩, fun j j1 => by rw [hfvy28 _ (by omega)]; rw [egy25, va_up_ne _ _ (by omega)]⟩
        · refine z_tin (off := 150) (tgt := 173) C dX10_count_23 (by omega) (by omega) (by omega) rfl (by decide) ?_
          refine z_aload_n C 0 dX10_count_173 rfl ?_
          refine z_get (v := .int (zI (F 17))) C (lt_A0 hN rfl) hay1 hcvy28 rfl inA_X10 17 (by decide) q_1476 rfl (fv (F := Fvy28) (f := 17) ((hFvy28 17 (by decide)).trans (fn rfl (by decide)))) dX10_count_174 ?_
          have hgy481 := up_n egy25 ha1 (ne_o (i := i) (c := 1) (d := 0) rfl)
          have hgy482 := (hfvy28 (i + 1) (ne_o (i := i) (c := 1) (d := 0) rfl)).trans hgy481
          have hFy483 : ∀ f, f ≠ 12 → Fvy28 f = F f := fun f n12 => ((hFvy28 f n12).trans ((uZ_n _ _ n12).trans rfl))
          have hey484 : Fvy28 13 = F 13 := ((hFvy28 13 (by decide)).trans (fn rfl (by decide)))
          have hey485 : Fvy28 14 = F 14 := ((hFvy28 14 (by decide)).trans (fn rfl (by decide)))
          have hey486 : Fvy28 15 = F 15 := ((hFvy28 15 (by decide)).trans (fn rfl (by decide)))
          have hey487 : Fvy28 16 = F 16 := ((hFvy28 16 (by decide)).trans (fn rfl (by decide)))
          have hey488 : Fvy28 17 = F 17 := ((hFvy28 17 (by decide)).trans (fn rfl (by decide)))
          have hey489 : Fvy28 18 = F 18 := ((hFvy28 18 (by decide)).trans (fn rfl (by decide)))
          have hey490 : Fvy28 19 = F 19 := ((hFvy28 19 (by decide)).trans (fn rfl (by decide)))
          have hey491 : Fvy28 20 = F 20 := ((hFvy28 20 (by decide)).trans (fn rfl (by decide)))
          have hey492 : Fvy28 21 = F 21 := ((hFvy28 21 (by decide)).trans (fn rfl (by decide)))
          have hey493 : Fvy28 23 = F 23 := ((hFvy28 23 (by decide)).trans (fn rfl (by decide)))
          have hey494 : Fvy28 25 = F 25 := ((hFvy28 25 (by decide)).trans (fn rfl (by decide)))
          have hey495 : Fvy28 27 = F 27 := ((hFvy28 27 (by decide)).trans (fn rfl (by decide)))
          have hey496 : Fvy28 28 = F 28 := ((hFvy28 28 (by decide)).trans (fn rfl (by decide)))
          have hey497 : Fvy28 29 = F 29 := ((hFvy28 29 (by decide)).trans (fn rfl (by decide)))
          have hKy498 : okF Fvy28 := okF.mv hM.2.1 hey484 hey485 hey486 hey487 hey488 hey489 hey490 hey491 hey492 hey493 hey494 hey495 hey496 hey497
          have hMy499 : okMr cs ad gvy28 i (x + 1) Fvy28 r st op ai fa mu tb tp := okMr.upd hM hcvy28 hKy498 (fun f a => hFy483 f (by omega)) hgy482 (hA.mono (by omega)) (fun j a b => by
              exact Or.inl (by rw [hfvy28 _ (by omega)]; rw [egy25, va_up_ne _ _ (by omega)]))
          have hkpy500 : Fvy28 13 = F 13 := ((hFvy28 13 (by decide)).trans (fn rfl (by decide)))
          have hkpy501 : Fvy28 14 = F 14 := ((hFvy28 14 (by decide)).trans (fn rfl (by decide)))
          have hkpy502 : Fvy28 17 = F 17 := ((hFvy28 17 (by decide)).trans (fn rfl (by decide)))
          have hkpy503 : Fvy28 20 = F 20 := ((hFvy28 20 (by decide)).trans (fn rfl (by decide)))
          have hkpy504 : Fvy28 21 = F 21 := ((hFvy28 21 (by decide)).trans (fn rfl (by decide)))
          have hkpy505 : Fvy28 23 = F 23 := ((hFvy28 23 (by decide)).trans (fn rfl (by decide)))
          have hkpy506 : Fvy28 24 = F 24 := ((hFvy28 24 (by decide)).trans (fn rfl (by decide)))
          exact z_iret C hr hlk dX10_count_177 (by decide) (by decide) ⟨F 17, rfl, rfl, rfl, by omega, ⟨_, _, hMy499, ⟨hkpy500, hkpy501, hkpy502, hkpy503, hkpy504, hkpy505, hkpy506⟩⟩, fun j j1 => by rw [hfvy28 _ (by omega)]; rw [egy25, va_up_ne _ _ (by omega)]⟩
        · refine z_tin (off := 155) (tgt := 178) C dX10_count_23 (by omega) (by omega) (by omega) rfl (by decide) ?_
          refine z_aload_n C 0 dX10_count_178 rfl ?_
          refine z_get (v := .int (zI (F 23))) C (lt_A0 hN rfl) hay1 hcvy28 rfl inA_X10 23 (by decide) q_1482 rfl (fv (F := Fvy28) (f := 23) ((hFvy28 23 (by decide)).trans (fn rfl (by decide)))) dX10_count_179 ?_
          have hgy507 := up_n egy25 ha1 (ne_o (i := i) (c := 1) (d := 0) rfl)
          have hgy508 := (hfvy28 (i + 1) (ne_o (i := i) (c := 1) (d := 0) rfl)).trans hgy507
          have hFy509 : ∀ f, f ≠ 12 → Fvy28 f = F f := fun f n12 => ((hFvy28 f n12).trans ((uZ_n _ _ n12).trans rfl))
          have hey510 : Fvy28 13 = F 13 := ((hFvy28 13 (by decide)).trans (fn rfl (by decide)))
          have hey511 : Fvy28 14 = F 14 := ((hFvy28 14 (by decide)).trans (fn rfl (by decide)))
          have hey512 : Fvy28 15 = F 15 := ((hFvy28 15 (by decide)).trans (fn rfl (by decide)))
          have hey513 : Fvy28 16 = F 16 := ((hFvy28 16 (by decide)).trans (fn rfl (by decide)))
          have hey514 : Fvy28 17 = F 17 := ((hFvy28 17 (by decide)).trans (fn rfl (by decide)))
          have hey515 : Fvy28 18 = F 18 := ((hFvy28 18 (by decide)).trans (fn rfl (by decide)))
          have hey516 : Fvy28 19 = F 19 := ((hFvy28 19 (by decide)).trans (fn rfl (by decide)))
          have hey517 : Fvy28 20 = F 20 := ((hFvy28 20 (by decide)).trans (fn rfl (by decide)))
          have hey518 : Fvy28 21 = F 21 := ((hFvy28 21 (by decide)).trans (fn rfl (by decide)))
          have hey519 : Fvy28 23 = F 23 := ((hFvy28 23 (by decide)).trans (fn rfl (by decide)))
          have hey520 : Fvy28 25 = F 25 := ((hFvy28 25 (by decide)).trans (fn rfl (by decide)))
          have hey521 : Fvy28 27 = F 27 := ((hFvy28 27 (by decide)).trans (fn rfl (by decide)))
          have hey522 : Fvy28 28 = F 28 := ((hFvy28 28 (by decide)).trans (fn rfl (by decide)))
          have hey523 : Fvy28 29 = F 29 := ((hFvy28 29 (by decide)).trans (fn rfl (by decide)))
          have hKy524 : okF Fvy28 := okF.mv hM.2.1 hey510 hey511 hey512 hey513 hey514 hey515 hey516 hey517 hey518 hey519 hey520 hey521 hey522 hey523
          have hMy525 : okMr cs ad gvy28 i (x + 1) Fvy28 r st op ai fa mu tb tp := okMr.upd hM hcvy28 hKy524 (fun f a => hFy509 f (by omega)) hgy508 (hA.mono (by omega)) (fun j a b => by
              exact Or.inl (by rw [hfvy28 _ (by omega)]; rw [egy25, va_up_ne _ _ (by omega)]))
          have hkpy526 : Fvy28 13 = F 13 := ((hFvy28 13 (by decide)).trans (fn rfl (by decide)))
          have hkpy527 : Fvy28 14 = F 14 := ((hFvy28 14 (by decide)).trans (fn rfl (by decide)))
          have hkpy528 : Fvy28 17 = F 17 := ((hFvy28 17 (by decide)).trans (fn rfl (by decide)))
          have hkpy529 : Fvy28 20 = F 20 := ((hFvy28 20 (by decide)).trans (fn rfl (by decide)))
          have hkpy530 : Fvy28 21 = F 21 := ((hFvy28 21 (by decide)).trans (fn rfl (by decide)))
          have hkpy531 : Fvy28 23 = F 23 := ((hFvy28 23 (by decide)).trans (fn rfl (by decide)))
          have hkpy532 : Fvy28 24 = F 24 := ((hFvy28 24 (by decide)).trans (fn rfl (by decide)))
          exact z_iret C hr hlk dX10_count_182 (by decide) (by decide) ⟨F 23, rfl, rfl, rfl, by omega, ⟨_, _, hMy525, ⟨hkpy526, hkpy527, hkpy528, hkpy529, hkpy530, hkpy531, hkpy532⟩⟩, fun j j1 => by rw [hfvy28 _ (by omega)]; rw [egy25, va_up_ne _ _ (by omega)]⟩
    · refine z_if_ne (tgt := 22) C dX10_count_17 (by decide) (by omega) (fun h => absurd h (by omega)) (fun _ => ?_)
      refine z_iconst (z := 0) C dX10_count_20 rfl ?_
      have hgy533 := up_n egy25 ha1 (ne_o (i := i) (c := 1) (d := 0) rfl)
      have hgy534 := (hfvy28 (i + 1) (ne_o (i := i) (c := 1) (d := 0) rfl)).trans hgy533
      have hFy535 : ∀ f, f ≠ 12 → Fvy28 f = F f := fun f n12 => ((hFvy28 f n12).trans ((uZ_n _ _ n12).trans rfl))
      have hey536 : Fvy28 13 = F 13 := ((hFvy28 13 (by decide)).trans (fn rfl (by decide)))
      have hey537 : Fvy28 14 = F 14 := ((hFvy28 14 (by decide)).trans (fn rfl (by decide)))
      have hey538 : Fvy28 15 = F 15 := ((hFvy28 15 (by decide)).trans (fn rfl (by decide)))
      have hey539 : Fvy28 16 = F 16 := ((hFvy28 16 (by decide)).trans (fn rfl (by decide)))
      have hey540 : Fvy28 17 = F 17 := ((hFvy28 17 (by decide)).trans (fn rfl (by decide)))
      have hey541 : Fvy28 18 = F 18 := ((hFvy28 18 (by decide)).trans (fn rfl (by decide)))
      have hey542 : Fvy28 19 = F 19 := ((hFvy28 19 (by decide)).trans (fn rfl (by decide)))
      have hey543 : Fvy28 20 = F 20 := ((hFvy28 20 (by decide)).trans (fn rfl (by decide)))
      have hey544 : Fvy28 21 = F 21 := ((hFvy28 21 (by decide)).trans (fn rfl (by decide)))
      have hey545 : Fvy28 23 = F 23 := ((hFvy28 23 (by decide)).trans (fn rfl (by decide)))
      have hey546 : Fvy28 25 = F 25 := ((hFvy28 25 (by decide)).trans (fn rfl (by decide)))
      have hey547 : Fvy28 27 = F 27 := ((hFvy28 27 (by decide)).trans (fn rfl (by decide)))
      have hey548 : Fvy28 28 = F 28 := ((hFvy28 28 (by decide)).trans (fn rfl (by decide)))
      have hey549 : Fvy28 29 = F 29 := ((hFvy28 29 (by decide)).trans (fn rfl (by decide)))
      have hKy550 : okF Fvy28 := okF.mv hM.2.1 hey536 hey537 hey538 hey539 hey540 hey541 hey542 hey543 hey544 hey545 hey546 hey547 hey548 hey549
      have hMy551 : okMr cs ad gvy28 i (x + 1) Fvy28 r st op ai fa mu tb tp := okMr.upd hM hcvy28 hKy550 (fun f a => hFy535 f (by omega)) hgy534 (hA.mono (by omega)) (fun j a b => by
          exact Or.inl (by rw [hfvy28 _ (by omega)]; rw [egy25, va_up_ne _ _ (by omega)]))
      have hkpy552 : Fvy28 13 = F 13 := ((hFvy28 13 (by decide)).trans (fn rfl (by decide)))
      have hkpy553 : Fvy28 14 = F 14 := ((hFvy28 14 (by decide)).trans (fn rfl (by decide)))
      have hkpy554 : Fvy28 17 = F 17 := ((hFvy28 17 (by decide)).trans (fn rfl (by decide)))
      have hkpy555 : Fvy28 20 = F 20 := ((hFvy28 20 (by decide)).trans (fn rfl (by decide)))
      have hkpy556 : Fvy28 21 = F 21 := ((hFvy28 21 (by decide)).trans (fn rfl (by decide)))
      have hkpy557 : Fvy28 23 = F 23 := ((hFvy28 23 (by decide)).trans (fn rfl (by decide)))
      have hkpy558 : Fvy28 24 = F 24 := ((hFvy28 24 (by decide)).trans (fn rfl (by decide)))
      exact z_iret C hr hlk dX10_count_21 (by decide) (by decide) ⟨0, rfl, rfl, rfl, by omega, ⟨_, _, hMy551, ⟨hkpy552, hkpy553, hkpy554, hkpy555, hkpy556, hkpy557, hkpy558⟩⟩, fun j j1 => by rw [hfvy28 _ (by omega)]; rw [egy25, va_up_ne _ _ (by omega)]⟩
  · refine z_iconst (z := 1) C dX10_count_13 rfl ?_
    have hey560 : (uZ F 12 (0)) 12 = 0 := (uZ_s _ _ _)
    refine z_cV (As := [.int (zI (0)), .int (zI (1))]) (rest := []) (ci := 12) C (c_X10_right l D A cs tt N ad _ i hN _ hgy26 (by omega) (0) (by omega) (1) (by omega)) (lt_A0 hN rfl) hay1 hgy26 rfl rfl mv_yX10_right q_1648 hd_yX10_right (by decide) (Nat.le_of_ble_eq_true rfl) (by decide) dX10_count_14 rfl (kI0 fun vy559 gvy559 hvy559 => ?_)
    obtain ⟨hrvy559, ⟨Fvy559, hcvy559, htvy559, hFvy559⟩, hfvy559⟩ := hvy559
    obtain rfl : vy559 = 0 := by omega
    refine z_if_ne (tgt := 22) C dX10_count_17 (by decide) (by omega) (fun h => absurd h (by omega)) (fun _ => ?_)
    refine z_iconst (z := 0) C dX10_count_20 rfl ?_
    have hgy561 := up_n egy25 ha1 (ne_o (i := i) (c := 1) (d := 0) rfl)
    have hgy562 := (hfvy559 (i + 1) (ne_o (i := i) (c := 1) (d := 0) rfl)).trans hgy561
    have hFy563 : ∀ f, f ≠ 12 → Fvy559 f = F f := fun f n12 => ((hFvy559 f n12).trans ((uZ_n _ _ n12).trans rfl))
    have hey564 : Fvy559 13 = F 13 := ((hFvy559 13 (by decide)).trans (fn rfl (by decide)))
    have hey565 : Fvy559 14 = F 14 := ((hFvy559 14 (by decide)).trans (fn rfl (by decide)))
    have hey566 : Fvy559 15 = F 15 := ((hFvy559 15 (by decide)).trans (fn rfl (by decide)))
    have hey567 : Fvy559 16 = F 16 := ((hFvy559 16 (by decide)).trans (fn rfl (by decide)))
    have hey568 : Fvy559 17 = F 17 := ((hFvy559 17 (by decide)).trans (fn rfl (by decide)))
    have hey569 : Fvy559 18 = F 18 := ((hFvy559 18 (by decide)).trans (fn rfl (by decide)))
    have hey570 : Fvy559 19 = F 19 := ((hFvy559 19 (by decide)).trans (fn rfl (by decide)))
    have hey571 : Fvy559 20 = F 20 := ((hFvy559 20 (by decide)).trans (fn rfl (by decide)))
    have hey572 : Fvy559 21 = F 21 := ((hFvy559 21 (by decide)).trans (fn rfl (by decide)))
    have hey573 : Fvy559 23 = F 23 := ((hFvy559 23 (by decide)).trans (fn rfl (by decide)))
    have hey574 : Fvy559 25 = F 25 := ((hFvy559 25 (by decide)).trans (fn rfl (by decide)))
    have hey575 : Fvy559 27 = F 27 := ((hFvy559 27 (by decide)).trans (fn rfl (by decide)))
    have hey576 : Fvy559 28 = F 28 := ((hFvy559 28 (by decide)).trans (fn rfl (by decide)))
    have hey577 : Fvy559 29 = F 29 := ((hFvy559 29 (by decide)).trans (fn rfl (by decide)))
    have hKy578 : okF Fvy559 := okF.mv hM.2.1 hey564 hey565 hey566 hey567 hey568 hey569 hey570 hey571 hey572 hey573 hey574 hey575 hey576 hey577
    have hMy579 : okMr cs ad gvy559 i (x + 1) Fvy559 r st op ai fa mu tb tp := okMr.upd hM hcvy559 hKy578 (fun f a => hFy563 f (by omega)) hgy562 (hA.mono (by omega)) (fun j a b => by
        exact Or.inl (by rw [hfvy559 _ (by omega)]; rw [egy25, va_up_ne _ _ (by omega)]))
    have hkpy580 : Fvy559 13 = F 13 := ((hFvy559 13 (by decide)).trans (fn rfl (by decide)))
    have hkpy581 : Fvy559 14 = F 14 := ((hFvy559 14 (by decide)).trans (fn rfl (by decide)))
    have hkpy582 : Fvy559 17 = F 17 := ((hFvy559 17 (by decide)).trans (fn rfl (by decide)))
    have hkpy583 : Fvy559 20 = F 20 := ((hFvy559 20 (by decide)).trans (fn rfl (by decide)))
    have hkpy584 : Fvy559 21 = F 21 := ((hFvy559 21 (by decide)).trans (fn rfl (by decide)))
    have hkpy585 : Fvy559 23 = F 23 := ((hFvy559 23 (by decide)).trans (fn rfl (by decide)))
    have hkpy586 : Fvy559 24 = F 24 := ((hFvy559 24 (by decide)).trans (fn rfl (by decide)))
    exact z_iret C hr hlk dX10_count_21 (by decide) (by decide) ⟨0, rfl, rfl, rfl, by omega, ⟨_, _, hMy579, ⟨hkpy580, hkpy581, hkpy582, hkpy583, hkpy584, hkpy585, hkpy586⟩⟩, fun j j1 => by rw [hfvy559 _ (by omega)]; rw [egy25, va_up_ne _ _ (by omega)]⟩

set_option maxRecDepth 100000 in
set_option maxHeartbeats 4000000 in
theorem c_X10_forecast (l : Launch) (D : va_G) (A : Nat → Prop) (cs : Nat → ClassId) (tt : Nat) (N : Nat) (ad : Nat → Nat) (g : Nat → va_E) (i : Nat) (hN : i + 30 ≤ N) (x : Int) (hx : 0 ≤ x ∧ x ≤ 512) (F r : Nat → Int) {st op ai fa mu tb tp : Nat → Int} (hM : okMr cs ad g i x F r st op ai fa mu tb tp) (z : Int) (hz : -2147483648 ≤ z ∧ z ≤ 2147483647) (z1 : Int) (hz1 : -2147483648 ≤ z1 ∧ z1 ≤ 2147483647) : zM l yX10_forecast cX10_forecast 3 (some .int) ({ frames := 2, cells := 0, slots := 0, locals := 120 } : Room) D A cs tt N ad g [.ref (ad i), .int (zI (z)), .int (zI (z1))] (rI0 N ad fun q g' => (-2147483648 ≤ q ∧ q ≤ 2147483647) ∧ (∃ F' r' : Nat → Int, okMr cs ad g' i (x + 1) F' r' st op ai fa mu tb tp ∧ (F' 13 = F 13 ∧ F' 14 = F 14 ∧ F' 17 = F 17 ∧ F' 20 = F 20 ∧ F' 21 = F 21 ∧ F' 23 = F 23 ∧ F' 24 = F 24)) ∧ ∀ j, j < i ∨ i + 30 ≤ j → g' j = g j) := by
  obtain ⟨hg, ⟨⟨e13, e14, e25, e27, e29⟩, k15, k16, k17, k18, k19, k20, k23, k21⟩, hRD, hTx, hA, ns, nh, nd, rf, pi, te, ki, li, ok1, ok2, fo, dd, dps, ⟨ha1, ha2, ha3, ha4, ha5, ha6, ha7, ha8, ha9, ha10, ha11, ha12, ha13, ha14, ha15, ha24, ha25, ha26, ha27, ha28, ha29⟩, hEv, hPt, hns, htp⟩ := id hM
  obtain ⟨-, hop, hai, hfa, hT, hT1⟩ := id hEv
  have hay1 : zAt ad (i) (ad i) := rfl
  have hay2 : zAt ad (i + 1) (ad (i + 1)) := rfl
  have hay3 : zAt ad (i + 2) (ad (i + 2)) := rfl
  have hay4 : zAt ad (i + 3) (ad (i + 3)) := rfl
  have hay5 : zAt ad (i + 4) (ad (i + 4)) := rfl
  have hay6 : zAt ad (i + 5) (ad (i + 5)) := rfl
  have hay7 : zAt ad (i + 6) (ad (i + 6)) := rfl
  have hay8 : zAt ad (i + 7) (ad (i + 7)) := rfl
  have hay9 : zAt ad (i + 8) (ad (i + 8)) := rfl
  have hay10 : zAt ad (i + 9) (ad (i + 9)) := rfl
  have hay11 : zAt ad (i + 10) (ad (i + 10)) := rfl
  have hay12 : zAt ad (i + 11) (ad (i + 11)) := rfl
  have hay13 : zAt ad (i + 12) (ad (i + 12)) := rfl
  have hay14 : zAt ad (i + 13) (ad (i + 13)) := rfl
  have hay15 : zAt ad (i + 14) (ad (i + 14)) := rfl
  have hay16 : zAt ad (i + 15) (ad (i + 15)) := rfl
  have hay17 : zAt ad (i + 24) (ad (i + 24)) := rfl
  have hay18 : zAt ad (i + 25) (ad (i + 25)) := rfl
  have hay19 : zAt ad (i + 26) (ad (i + 26)) := rfl
  have hay20 : zAt ad (i + 27) (ad (i + 27)) := rfl
  have hay21 : zAt ad (i + 28) (ad (i + 28)) := rfl
  have hay22 : zAt ad (i + 29) (ad (i + 29)) := rfl
  obtain ⟨⟨hsyy23, htyy23, hnyy23, hpyy23⟩, hlyy23⟩ := okA.at0 hA
  simp only [Nat.zero_add] at hsyy23 hnyy23 hpyy23
  have hmn : ∀ s, s < 4 → 0 ≤ r (6 + 86 * s) ∧ r (6 + 86 * s) ≤ 12 := fun s hs => (hsyy23 s hs).1
  have h5 : 0 ≤ r 5 ∧ r 5 ≤ 6 := hpyy23
  refine z_of (by decide) (Nat.le_of_ble_eq_true rfl) ?_
  intro pZ eZ sZ mZ below meth cZ C hr hlk hnm
  refine z_lv (lv' := [(0, .ref (ad i)), (1, .int (zI (z))), (2, .int (zI (z1)))]) [0, 1, 2] rfl ?_
  refine z_aload_n C 0 dX10_forecast_0 rfl ?_
  refine z_iconst (z := 0) C dX10_forecast_1 rfl ?_
  refine z_put (fs' := mF ad (i) (uZ F 12 (0))) C (lt_A0 hN rfl) hay1 hg tyX10 tyX10_ok nmX10 rfl inA_X10 12 (by decide) q_1471 rfl rfl rfl rfl (Nat.le_of_ble_eq_true rfl) rfl dX10_forecast_2 (fun gy24 egy25 => ?_)
  have hgy26 := up_s egy25
  refine z_aload_n C 0 dX10_forecast_5 rfl ?_
  refine z_iload_n C 1 dX10_forecast_6 rfl ?_
  refine z_iconst (z := 0) C dX10_forecast_7 rfl ?_
  refine z_aload_n C 0 dX10_forecast_8 rfl ?_
  refine z_get (v := .int (zI (F 14))) C (lt_A0 hN rfl) hay1 hgy26 rfl inA_X10 14 (by decide) q_1473 rfl (fv (F := (uZ F 12 (0))) (f := 14) (fn rfl (by decide))) dX10_forecast_9 ?_
  refine z_iconst (z := 1) C dX10_forecast_12 rfl ?_
  refine z_isub C dX10_forecast_13 ?_
  refine z_cS (As := [.int (zI (z)), .int (zI (0)), .int (zI ((F 14) - 1))]) (rest := [.ref (ad i)]) C (c_X10_within l D A cs tt N ad _ (z) (by omega) (0) (by omega) ((F 14) - 1) (by omega)) ms_yX10_within q_1686 hd_yX10_within (by decide) (Nat.le_of_ble_eq_true rfl) (by decide) dX10_forecast_14 rfl (kI0 fun vy27 gvy27 hvy27 => ?_)
  obtain ⟨hvy27, rfl⟩ := hvy27
  rcases hvy27 with ⟨rfl, hxvy27⟩ | ⟨rfl, hxvy27⟩
  · refine z_if_eq (tgt := 33) C dX10_forecast_17 (by decide) (by omega) (fun h => absurd h (by omega)) (fun _ => ?_)
    refine z_iload_n C 2 dX10_forecast_20 rfl ?_
    refine z_iconst (z := 0) C dX10_forecast_21 rfl ?_
    refine z_iconst (z := 2) C dX10_forecast_22 rfl ?_
    refine z_cS (As := [.int (zI (z1)), .int (zI (0)), .int (zI (2))]) (rest := [.ref (ad i)]) C (c_X10_within l D A cs tt N ad _ (z1) (by omega) (0) (by omega) (2) (by omega)) ms_yX10_within q_1686 hd_yX10_within (by decide) (Nat.le_of_ble_eq_true rfl) (by decide) dX10_forecast_23 rfl (kI0 fun vy28 gvy28 hvy28 => ?_)
    obtain ⟨hvy28, rfl⟩ := hvy28
    rcases hvy28 with ⟨rfl, hxvy28⟩ | ⟨rfl, hxvy28⟩
    · refine z_if_eq (tgt := 33) C dX10_forecast_26 (by decide) (by omega) (fun h => absurd h (by omega)) (fun _ => ?_)
      refine z_iconst (z := 1) C dX10_forecast_29 rfl ?_
      refine z_goto (tgt := 34) C dX10_forecast_30 (by decide) ?_
      refine z_iconst (z := 1) C dX10_forecast_34 rfl ?_
      have hey30 : (uZ F 12 (0)) 12 = 0 := (uZ_s _ _ _)
      refine z_cV (As := [.int (zI (1)), .int (zI (1))]) (rest := []) (ci := 12) C (c_X10_right l D A cs tt N ad _ i hN _ hgy26 (by omega) (1) (by omega) (1) (by omega)) (lt_A0 hN rfl) hay1 hgy26 rfl rfl mv_yX10_right q_1648 hd_yX10_right (by decide) (Nat.le_of_ble_eq_true rfl) (by decide) dX10_forecast_35 rfl (kI0 fun vy29 gvy29 hvy29 => ?_)
      obtain ⟨hrvy29, ⟨Fvy29, hcvy29, htvy29, hFvy29⟩, hfvy29⟩ := hvy29
      rcases (show vy29 = 1 ∨ vy29 = 0 by omega) with rfl | rfl
      · refine z_if_ne (tgt := 43) C dX10_forecast_38 (by decide) (by omega) (fun _ => ?_) (fun h => absurd h (by omega))
        refine z_iload_n C 2 dX10_forecast_43 rfl ?_
        refine z_if_ne (tgt := 56) C dX10_forecast_44 (by decide) (by omega) (fun hby31 => ?_) (fun hby31 => ?_)
        · refine z_iload_n C 2 dX10_forecast_56 rfl ?_
          refine z_iconst (z := 1) C dX10_forecast_57 rfl ?_
          refine z_icmp_ne (tgt := 70) C dX10_forecast_58 (by decide) (by omega) (by omega) (fun hby32 => ?_) (fun hby32 => ?_)
          · refine z_aload_n C 0 dX10_forecast_70 rfl ?_
            refine z_get (v := .ref (ad (i + 6))) C (lt_A0 hN rfl) hay1 hcvy29 rfl inA_X10 5 (by decide) q_1464 rfl rfl dX10_forecast_71 ?_
            refine z_iload_n C 1 dX10_forecast_74 rfl ?_
            have hgy33 := up_n egy25 ha6 (ne_o (i := i) (c := 6) (d := 0) rfl)
            have hgy34 := (hfvy29 (i + 6) (ne_o (i := i) (c := 6) (d := 0) rfl)).trans hgy33
            refine z_iald C (lt_A (c := 6) hN rfl) hay7 hgy34 ((z).toNat) (by omega) (by omega) (by decide) dX10_forecast_75 ?_
            obtain ⟨xy35, exy36, hxy37⟩ := zI_of (zI (mu ((z).toNat)))
            rw [exy36]
            have hgy38 := up_n egy25 ha1 (ne_o (i := i) (c := 1) (d := 0) rfl)
            have hgy39 := (hfvy29 (i + 1) (ne_o (i := i) (c := 1) (d := 0) rfl)).trans hgy38
            have hFy40 : ∀ f, f ≠ 12 → Fvy29 f = F f := fun f n12 => ((hFvy29 f n12).trans ((uZ_n _ _ n12).trans rfl))
            have hey41 : Fvy29 13 = F 13 := ((hFvy29 13 (by decide)).trans (fn rfl (by decide)))
            have hey42 : Fvy29 14 = F 14 := ((hFvy29 14 (by decide)).trans (fn rfl (by decide)))
            have hey43 : Fvy29 15 = F 15 := ((hFvy29 15 (by decide)).trans (fn rfl (by decide)))
            have hey44 : Fvy29 16 = F 16 := ((hFvy29 16 (by decide)).trans (fn rfl (by decide)))
            have hey45 : Fvy29 17 = F 17 := ((hFvy29 17 (by decide)).trans (fn rfl (by decide)))
            have hey46 : Fvy29 18 = F 18 := ((hFvy29 18 (by decide)).trans (fn rfl (by decide)))
            have hey47 : Fvy29 19 = F 19 := ((hFvy29 19 (by decide)).trans (fn rfl (by decide)))
            have hey48 : Fvy29 20 = F 20 := ((hFvy29 20 (by decide)).trans (fn rfl (by decide)))
            have hey49 : Fvy29 21 = F 21 := ((hFvy29 21 (by decide)).trans (fn rfl (by decide)))
            have hey50 : Fvy29 23 = F 23 := ((hFvy29 23 (by decide)).trans (fn rfl (by decide)))
            have hey51 : Fvy29 25 = F 25 := ((hFvy29 25 (by decide)).trans (fn rfl (by decide)))
            have hey52 : Fvy29 27 = F 27 := ((hFvy29 27 (by decide)).trans (fn rfl (by decide)))
            have hey53 : Fvy29 28 = F 28 := ((hFvy29 28 (by decide)).trans (fn rfl (by decide)))
            have hey54 : Fvy29 29 = F 29 := ((hFvy29 29 (by decide)).trans (fn rfl (by decide)))
            have hKy55 : okF Fvy29 := okF.mv hM.2.1 hey41 hey42 hey43 hey44 hey45 hey46 hey47 hey48 hey49 hey50 hey51 hey52 hey53 hey54
            have hMy56 : okMr cs ad gvy29 i (x + 1) Fvy29 r st op ai fa mu tb tp := okMr.upd hM hcvy29 hKy55 (fun f a => hFy40 f (by omega)) hgy39 (hA.mono (by omega)) (fun j a b => by
                exact Or.inl (by rw [hfvy29 _ (by omega)]; rw [egy25, va_up_ne _ _ (by omega)]))
            have hkpy57 : Fvy29 13 = F 13 := ((hFvy29 13 (by decide)).trans (fn rfl (by decide)))
            have hkpy58 : Fvy29 14 = F 14 := ((hFvy29 14 (by decide)).trans (fn rfl (by decide)))
            have hkpy59 : Fvy29 17 = F 17 := ((hFvy29 17 (by decide)).trans (fn rfl (by decide)))
            have hkpy60 : Fvy29 20 = F 20 := ((hFvy29 20 (by decide)).trans (fn rfl (by decide)))
            have hkpy61 : Fvy29 21 = F 21 := ((hFvy29 21 (by decide)).trans (fn rfl (by decide)))
            have hkpy62 : Fvy29 23 = F 23 := ((hFvy29 23 (by decide)).trans (fn rfl (by decide)))
            have hkpy63 : Fvy29 24 = F 24 := ((hFvy29 24 (by decide)).trans (fn rfl (by decide)))
            exact z_iret C hr hlk dX10_forecast_76 (by decide) (by decide) ⟨xy35, rfl, rfl, rfl, by omega, ⟨_, _, hMy56, ⟨hkpy57, hkpy58, hkpy59, hkpy60, hkpy61, hkpy62, hkpy63⟩⟩, fun j j1 => by rw [hfvy29 _ (by omega)]; rw [egy25, va_up_ne _ _ (by omega)]⟩
          · refine z_aload_n C 0 dX10_forecast_61 rfl ?_
            refine z_get (v := .ref (ad (i + 5))) C (lt_A0 hN rfl) hay1 hcvy29 rfl inA_X10 4 (by decide) q_1463 rfl rfl dX10_forecast_62 ?_
            refine z_iload_n C 1 dX10_forecast_65 rfl ?_
            have hgy64 := up_n egy25 ha5 (ne_o (i := i) (c := 5) (d := 0) rfl)
            have hgy65 := (hfvy29 (i + 5) (ne_o (i := i) (c := 5) (d := 0) rfl)).trans hgy64
            refine z_iald C (lt_A (c := 5) hN rfl) hay6 hgy65 ((z).toNat) (by omega) (by omega) (by decide) dX10_forecast_66 ?_
            refine z_goto (tgt := 76) C dX10_forecast_67 (by decide) ?_
            obtain ⟨xy66, exy67, hxy68⟩ := zI_of (zI (fa ((z).toNat)))
            rw [exy67]
            have hgy69 := up_n egy25 ha1 (ne_o (i := i) (c := 1) (d := 0) rfl)
            have hgy70 := (hfvy29 (i + 1) (ne_o (i := i) (c := 1) (d := 0) rfl)).trans hgy69
            have hFy71 : ∀ f, f ≠ 12 → Fvy29 f = F f := fun f n12 => ((hFvy29 f n12).trans ((uZ_n _ _ n12).trans rfl))
            have hey72 : Fvy29 13 = F 13 := ((hFvy29 13 (by decide)).trans (fn rfl (by decide)))
            have hey73 : Fvy29 14 = F 14 := ((hFvy29 14 (by decide)).trans (fn rfl (by decide)))
            have hey74 : Fvy29 15 = F 15 := ((hFvy29 15 (by decide)).trans (fn rfl (by decide)))
            have hey75 : Fvy29 16 = F 16 := ((hFvy29 16 (by decide)).trans (fn rfl (by decide)))
            have hey76 : Fvy29 17 = F 17 := ((hFvy29 17 (by decide)).trans (fn rfl (by decide)))
            have hey77 : Fvy29 18 = F 18 := ((hFvy29 18 (by decide)).trans (fn rfl (by decide)))
            have hey78 : Fvy29 19 = F 19 := ((hFvy29 19 (by decide)).trans (fn rfl (by decide)))
            have hey79 : Fvy29 20 = F 20 := ((hFvy29 20 (by decide)).trans (fn rfl (by decide)))
            have hey80 : Fvy29 21 = F 21 := ((hFvy29 21 (by decide)).trans (fn rfl (by decide)))
            have hey81 : Fvy29 23 = F 23 := ((hFvy29 23 (by decide)).trans (fn rfl (by decide)))
            have hey82 : Fvy29 25 = F 25 := ((hFvy29 25 (by decide)).trans (fn rfl (by decide)))
            have hey83 : Fvy29 27 = F 27 := ((hFvy29 27 (by decide)).trans (fn rfl (by decide)))
            have hey84 : Fvy29 28 = F 28 := ((hFvy29 28 (by decide)).trans (fn rfl (by decide)))
            have hey85 : Fvy29 29 = F 29 := ((hFvy29 29 (by decide)).trans (fn rfl (by decide)))
            have hKy86 : okF Fvy29 := okF.mv hM.2.1 hey72 hey73 hey74 hey75 hey76 hey77 hey78 hey79 hey80 hey81 hey82 hey83 hey84 hey85
            have hMy87 : okMr cs ad gvy29 i (x + 1) Fvy29 r st op ai fa mu tb tp := okMr.upd hM hcvy29 hKy86 (fun f a => hFy71 f (by omega)) hgy70 (hA.mono (by omega)) (fun j a b => by
                exact Or.inl (by rw [hfvy29 _ (by omega)]; rw [egy25, va_up_ne _ _ (by omega)]))
            have hkpy88 : Fvy29 13 = F 13 := ((hFvy29 13 (by decide)).trans (fn rfl (by decide)))
            have hkpy89 : Fvy29 14 = F 14 := ((hFvy29 14 (by decide)).trans (fn rfl (by decide)))
            have hkpy90 : Fvy29 17 = F 17 := ((hFvy29 17 (by decide)).trans (fn rfl (by decide)))
            have hkpy91 : Fvy29 20 = F 20 := ((hFvy29 20 (by decide)).trans (fn rfl (by decide)))
            have hkpy92 : Fvy29 21 = F 21 := ((hFvy29 21 (by decide)).trans (fn rfl (by decide)))
            have hkpy93 : Fvy29 23 = F 23 := ((hFvy29 23 (by decide)).trans (fn rfl (by decide)))
            have hkpy94 : Fvy29 24 = F 24 := ((hFvy29 24 (by decide)).trans (fn rfl (by decide)))
            exact z_iret C hr hlk dX10_forecast_76 (by decide) (by decide) ⟨xy66, rfl, rfl, rfl, by omega, ⟨_, _, hMy87, ⟨hkpy88, hkpy89, hkpy90, hkpy91, hkpy92, hkpy93, hkpy94⟩⟩, fun j j1 => by rw [hfvy29 _ (by omega)]; rw [egy25, va_up_ne _ _ (by omega)]⟩
        · refine z_aload_n C 0 dX10_forecast_47 rfl ?_
          refine z_get (v := .ref (ad (i + 4))) C (lt_A0 hN rfl) hay1 hcvy29 rfl inA_X10 3 (by decide) q_1462 rfl rfl dX10_forecast_48 ?_
          refine z_iload_n C 1 dX10_forecast_51 rfl ?_
          have hgy95 := up_n egy25 ha4 (ne_o (i := i) (c := 4) (d := 0) rfl)
          have hgy96 := (hfvy29 (i + 4) (ne_o (i := i) (c := 4) (d := 0) rfl)).trans hgy95
          refine z_iald C (lt_A (c := 4) hN rfl) hay5 hgy96 ((z).toNat) (by omega) (by omega) (by decide) dX10_forecast_52 ?_
          have hrfy97 := hai ((z).toNat) (by omega)
          refine z_goto (tgt := 76) C dX10_forecast_53 (by decide) ?_
          have hgy98 := up_n egy25 ha1 (ne_o (i := i) (c := 1) (d := 0) rfl)
          have hgy99 := (hfvy29 (i + 1) (ne_o (i := i) (c := 1) (d := 0) rfl)).trans hgy98
          have hFy100 : ∀ f, f ≠ 12 → Fvy29 f = F f := fun f n12 => ((hFvy29 f n12).trans ((uZ_n _ _ n12).trans rfl))
          have hey101 : Fvy29 13 = F 13 := ((hFvy29 13 (by decide)).trans (fn rfl (by decide)))
          have hey102 : Fvy29 14 = F 14 := ((hFvy29 14 (by decide)).trans (fn rfl (by decide)))
          have hey103 : Fvy29 15 = F 15 := ((hFvy29 15 (by decide)).trans (fn rfl (by decide)))
          have hey104 : Fvy29 16 = F 16 := ((hFvy29 16 (by decide)).trans (fn rfl (by decide)))
          have hey105 : Fvy29 17 = F 17 := ((hFvy29 17 (by decide)).trans (fn rfl (by decide)))
          have hey106 : Fvy29 18 = F 18 := ((hFvy29 18 (by decide)).trans (fn rfl (by decide)))
          have hey107 : Fvy29 19 = F 19 := ((hFvy29 19 (by decide)).trans (fn rfl (by decide)))
          have hey108 : Fvy29 20 = F 20 := ((hFvy29 20 (by decide)).trans (fn rfl (by decide)))
          have hey109 : Fvy29 21 = F 21 := ((hFvy29 21 (by decide)).trans (fn rfl (by decide)))
          have hey110 : Fvy29 23 = F 23 := ((hFvy29 23 (by decide)).trans (fn rfl (by decide)))
          have hey111 : Fvy29 25 = F 25 := ((hFvy29 25 (by decide)).trans (fn rfl (by decide)))
          have hey112 : Fvy29 27 = F 27 := ((hFvy29 27 (by decide)).trans (fn rfl (by decide)))
          have hey113 : Fvy29 28 = F 28 := ((hFvy29 28 (by decide)).trans (fn rfl (by decide)))
          have hey114 : Fvy29 29 = F 29 := ((hFvy29 29 (by decide)).trans (fn rfl (by decide)))
          have hKy115 : okF Fvy29 := okF.mv hM.2.1 hey101 hey102 hey103 hey104 hey105 hey106 hey107 hey108 hey109 hey110 hey111 hey112 hey113 hey114
          have hMy116 : okMr cs ad gvy29 i (x + 1) Fvy29 r st op ai fa mu tb tp := okMr.upd hM hcvy29 hKy115 (fun f a => hFy100 f (by omega)) hgy99 (hA.mono (by omega)) (fun j a b => by
              exact Or.inl (by rw [hfvy29 _ (by omega)]; rw [egy25, va_up_ne _ _ (by omega)]))
          have hkpy117 : Fvy29 13 = F 13 := ((hFvy29 13 (by decide)).trans (fn rfl (by decide)))
          have hkpy118 : Fvy29 14 = F 14 := ((hFvy29 14 (by decide)).trans (fn rfl (by decide)))
          have hkpy119 : Fvy29 17 = F 17 := ((hFvy29 17 (by decide)).trans (fn rfl (by decide)))
          have hkpy120 : Fvy29 20 = F 20 := ((hFvy29 20 (by decide)).trans (fn rfl (by decide)))
          have hkpy121 : Fvy29 21 = F 21 := ((hFvy29 21 (by decide)).trans (fn rfl (by decide)))
          have hkpy122 : Fvy29 23 = F 23 := ((hFvy29 23 (by decide)).trans (fn rfl (by decide)))
          have hkpy123 : Fvy29 24 = F 24 := ((hFvy29 24 (by decide)).trans (fn rfl (by decide)))
          exact z_iret C hr hlk dX10_forecast_76 (by decide) (by decide) ⟨ai ((z).toNat), rfl, rfl, rfl, by omega, ⟨_, _, hMy116, ⟨hkpy117, hkpy118, hkpy119, hkpy120, hkpy121, hkpy122, hkpy123⟩⟩, fun j j1 => by rw [hfvy29 _ (by omega)]; rw [egy25, va_up_ne _ _ (by omega)]⟩
      · refine z_if_ne (tgt := 43) C dX10_forecast_38 (by decide) (by omega) (fun h => absurd h (by omega)) (fun _ => ?_)
        refine z_iconst (z := 0) C dX10_forecast_41 rfl ?_
        have hgy124 := up_n egy25 ha1 (ne_o (i := i) (c := 1) (d := 0) rfl)
        have hgy125 := (hfvy29 (i + 1) (ne_o (i := i) (c := 1) (d := 0) rfl)).trans hgy124
        have hFy126 : ∀ f, f ≠ 12 → Fvy29 f = F f := fun f n12 => ((hFvy29 f n12).trans ((uZ_n _ _ n12).trans rfl))
        have hey127 : Fvy29 13 = F 13 := ((hFvy29 13 (by decide)).trans (fn rfl (by decide)))
        have hey128 : Fvy29 14 = F 14 := ((hFvy29 14 (by decide)).trans (fn rfl (by decide)))
        have hey129 : Fvy29 15 = F 15 := ((hFvy29 15 (by decide)).trans (fn rfl (by decide)))
        have hey130 : Fvy29 16 = F 16 := ((hFvy29 16 (by decide)).trans (fn rfl (by decide)))
        have hey131 : Fvy29 17 = F 17 := ((hFvy29 17 (by decide)).trans (fn rfl (by decide)))
        have hey132 : Fvy29 18 = F 18 := ((hFvy29 18 (by decide)).trans (fn rfl (by decide)))
        have hey133 : Fvy29 19 = F 19 := ((hFvy29 19 (by decide)).trans (fn rfl (by decide)))
        have hey134 : Fvy29 20 = F 20 := ((hFvy29 20 (by decide)).trans (fn rfl (by decide)))
        have hey135 : Fvy29 21 = F 21 := ((hFvy29 21 (by decide)).trans (fn rfl (by decide)))
        have hey136 : Fvy29 23 = F 23 := ((hFvy29 23 (by decide)).trans (fn rfl (by decide)))
        have hey137 : Fvy29 25 = F 25 := ((hFvy29 25 (by decide)).trans (fn rfl (by decide)))
        have hey138 : Fvy29 27 = F 27 := ((hFvy29 27 (by decide)).trans (fn rfl (by decide)))
        have hey139 : Fvy29 28 = F 28 := ((hFvy29 28 (by decide)).trans (fn rfl (by decide)))
        have hey140 : Fvy29 29 = F 29 := ((hFvy29 29 (by decide)).trans (fn rfl (by decide)))
        have hKy141 : okF Fvy29 := okF.mv hM.2.1 hey127 hey128 hey129 hey130 hey131 hey132 hey133 hey134 hey135 hey136 hey137 hey138 hey139 hey140
        have hMy142 : okMr cs ad gvy29 i (x + 1) Fvy29 r st op ai fa mu tb tp := okMr.upd hM hcvy29 hKy141 (fun f a => hFy126 f (by omega)) hgy125 (hA.mono (by omega)) (fun j a b => by
            exact Or.inl (by rw [hfvy29 _ (by omega)]; rw [egy25, va_up_ne _ _ (by omega)]))
        have hkpy143 : Fvy29 13 = F 13 := ((hFvy29 13 (by decide)).trans (fn rfl (by decide)))
        have hkpy144 : Fvy29 14 = F 14 := ((hFvy29 14 (by decide)).trans (fn rfl (by decide)))
        have hkpy145 : Fvy29 17 = F 17 := ((hFvy29 17 (by decide)).trans (fn rfl (by decide)))
        have hkpy146 : Fvy29 20 = F 20 := ((hFvy29 20 (by decide)).trans (fn rfl (by decide)))
        have hkpy147 : Fvy29 21 = F 21 := ((hFvy29 21 (by decide)).trans (fn rfl (by decide)))
        have hkpy148 : Fvy29 23 = F 23 := ((hFvy29 23 (by decide)).trans (fn rfl (by decide)))
        have hkpy149 : Fvy29 24 = F 24 := ((hFvy29 24 (by decide)).trans (fn rfl (by decide)))
        exact z_iret C hr hlk dX10_forecast_42 (by decide) (by decide) ⟨0, rfl, rfl, rfl, by omega, ⟨_, _, hMy142, ⟨hkpy143, hkpy144, hkpy145, hkpy146, hkpy147, hkpy148, hkpy149⟩⟩, fun j j1 => by rw [hfvy29 _ (by omega)]; rw [egy25, va_up_ne _ _ (by omega)]⟩
    · refine z_if_eq (tgt := 33) C dX10_forecast_26 (by decide) (by omega) (fun _ => ?_) (fun h => absurd h (by omega))
      refine z_iconst (z := 0) C dX10_forecast_33 rfl ?_
      refine z_iconst (z := 1) C dX10_forecast_34 rfl ?_
      have hey151 : (uZ F 12 (0)) 12 = 0 := (uZ_s _ _ _)
      refine z_cV (As := [.int (zI (0)), .int (zI (1))]) (rest := []) (ci := 12) C (c_X10_right l D A cs tt N ad _ i hN _ hgy26 (by omega) (0) (by omega) (1) (by omega)) (lt_A0 hN rfl) hay1 hgy26 rfl rfl mv_yX10_right q_1648 hd_yX10_right (by decide) (Nat.le_of_ble_eq_true rfl) (by decide) dX10_forecast_35 rfl (kI0 fun vy150 gvy150 hvy150 => ?_)
      obtain ⟨hrvy150, ⟨Fvy150, hcvy150, htvy150, hFvy150⟩, hfvy150⟩ := hvy150
      obtain rfl : vy150 = 0 := by omega
      refine z_if_ne (tgt := 43) C dX10_forecast_38 (by decide) (by omega) (fun h => absurd h (by omega)) (fun _ => ?_)
      refine z_iconst (z := 0) C dX10_forecast_41 rfl ?_
      have hgy152 := up_n egy25 ha1 (ne_o (i := i) (c := 1) (d := 0) rfl)
      have hgy153 := (hfvy150 (i + 1) (ne_o (i := i) (c := 1) (d := 0) rfl)).trans hgy152
      have hFy154 : ∀ f, f ≠ 12 → Fvy150 f = F f := fun f n12 => ((hFvy150 f n12).trans ((uZ_n _ _ n12).trans rfl))
      have hey155 : Fvy150 13 = F 13 := ((hFvy150 13 (by decide)).trans (fn rfl (by decide)))
      have hey156 : Fvy150 14 = F 14 := ((hFvy150 14 (by decide)).trans (fn rfl (by decide)))
      have hey157 : Fvy150 15 = F 15 := ((hFvy150 15 (by decide)).trans (fn rfl (by decide)))
      have hey158 : Fvy150 16 = F 16 := ((hFvy150 16 (by decide)).trans (fn rfl (by decide)))
      have hey159 : Fvy150 17 = F 17 := ((hFvy150 17 (by decide)).trans (fn rfl (by decide)))
      have hey160 : Fvy150 18 = F 18 := ((hFvy150 18 (by decide)).trans (fn rfl (by decide)))
      have hey161 : Fvy150 19 = F 19 := ((hFvy150 19 (by decide)).trans (fn rfl (by decide)))
      have hey162 : Fvy150 20 = F 20 := ((hFvy150 20 (by decide)).trans (fn rfl (by decide)))
      have hey163 : Fvy150 21 = F 21 := ((hFvy150 21 (by decide)).trans (fn rfl (by decide)))
      have hey164 : Fvy150 23 = F 23 := ((hFvy150 23 (by decide)).trans (fn rfl (by decide)))
      have hey165 : Fvy150 25 = F 25 := ((hFvy150 25 (by decide)).trans (fn rfl (by decide)))
      have hey166 : Fvy150 27 = F 27 := ((hFvy150 27 (by decide)).trans (fn rfl (by decide)))
      have hey167 : Fvy150 28 = F 28 := ((hFvy150 28 (by decide)).trans (fn rfl (by decide)))
      have hey168 : Fvy150 29 = F 29 := ((hFvy150 29 (by decide)).trans (fn rfl (by decide)))
      have hKy169 : okF Fvy150 := okF.mv hM.2.1 hey155 hey156 hey157 hey158 hey159 hey160 hey161 hey162 hey163 hey164 hey165 hey166 hey167 hey168
      have hMy170 : okMr cs ad gvy150 i (x + 1) Fvy150 r st op ai fa mu tb tp := okMr.upd hM hcvy150 hKy169 (fun f a => hFy154 f (by omega)) hgy153 (hA.mono (by omega)) (fun j a b => by
          exact Or.inl (by rw [hfvy150 _ (by omega)]; rw [egy25, va_up_ne _ _ (by omega)]))
      have hkpy171 : Fvy150 13 = F 13 := ((hFvy150 13 (by decide)).trans (fn rfl (by decide)))
      have hkpy172 : Fvy150 14 = F 14 := ((hFvy150 14 (by decide)).trans (fn rfl (by decide)))
      have hkpy173 : Fvy150 17 = F 17 := ((hFvy150 17 (by decide)).trans (fn rfl (by decide)))
      have hkpy174 : Fvy150 20 = F 20 := ((hFvy150 20 (by decide)).trans (fn rfl (by decide)))
      have hkpy175 : Fvy150 21 = F 21 := ((hFvy150 21 (by decide)).trans (fn rfl (by decide)))
      have hkpy176 : Fvy150 23 = F 23 := ((hFvy150 23 (by decide)).trans (fn rfl (by decide)))
      have hkpy177 : Fvy150 24 = F 24 := ((hFvy150 24 (by decide)).trans (fn rfl (by decide)))
      exact z_iret C hr hlk dX10_forecast_42 (by decide) (by decide) ⟨0, rfl, rfl, rfl, by omega, ⟨_, _, hMy170, ⟨hkpy171, hkpy172, hkpy173, hkpy174, hkpy175, hkpy176, hkpy177⟩⟩, fun j j1 => by rw [hfvy150 _ (by omega)]; rw [egy25, va_up_ne _ _ (by omega)]⟩
  · refine z_if_eq (tgt := 33) C dX10_forecast_17 (by decide) (by omega) (fun _ => ?_) (fun h => absurd h (by omega))
    refine z_iconst (z := 0) C dX10_forecast_33 rfl ?_
    refine z_iconst (z := 1) C dX10_forecast_34 rfl ?_
    have hey179 : (uZ F 12 (0)) 12 = 0 := (uZ_s _ _ _)
    refine z_cV (As := [.int (zI (0)), .int (zI (1))]) (rest := []) (ci := 12) C (c_X10_right l D A cs tt N ad _ i hN _ hgy26 (by omega) (0) (by omega) (1) (by omega)) (lt_A0 hN rfl) hay1 hgy26 rfl rfl mv_yX10_right q_1648 hd_yX10_right (by decide) (Nat.le_of_ble_eq_true rfl) (by decide) dX10_forecast_35 rfl (kI0 fun vy178 gvy178 hvy178 => ?_)
    obtain ⟨hrvy178, ⟨Fvy178, hcvy178, htvy178, hFvy178⟩, hfvy178⟩ := hvy178
    obtain rfl : vy178 = 0 := by omega
    refine z_if_ne (tgt := 43) C dX10_forecast_38 (by decide) (by omega) (fun h => absurd h (by omega)) (fun _ => ?_)
    refine z_iconst (z := 0) C dX10_forecast_41 rfl ?_
    have hgy180 := up_n egy25 ha1 (ne_o (i := i) (c := 1) (d := 0) rfl)
    have hgy181 := (hfvy178 (i + 1) (ne_o (i := i) (c := 1) (d := 0) rfl)).trans hgy180
    have hFy182 : ∀ f, f ≠ 12 → Fvy178 f = F f := fun f n12 => ((hFvy178 f n12).trans ((uZ_n _ _ n12).trans rfl))
    have hey183 : Fvy178 13 = F 13 := ((hFvy178 13 (by decide)).trans (fn rfl (by decide)))
    have hey184 : Fvy178 14 = F 14 := ((hFvy178 14 (by decide)).trans (fn rfl (by decide)))
    have hey185 : Fvy178 15 = F 15 := ((hFvy178 15 (by decide)).trans (fn rfl (by decide)))
    have hey186 : Fvy178 16 = F 16 := ((hFvy178 16 (by decide)).trans (fn rfl (by decide)))
    have hey187 : Fvy178 17 = F 17 := ((hFvy178 17 (by decide)).trans (fn rfl (by decide)))
    have hey188 : Fvy178 18 = F 18 := ((hFvy178 18 (by decide)).trans (fn rfl (by decide)))
    have hey189 : Fvy178 19 = F 19 := ((hFvy178 19 (by decide)).trans (fn rfl (by decide)))
    have hey190 : Fvy178 20 = F 20 := ((hFvy178 20 (by decide)).trans (fn rfl (by decide)))
    have hey191 : Fvy178 21 = F 21 := ((hFvy178 21 (by decide)).trans (fn rfl (by decide)))
    have hey192 : Fvy178 23 = F 23 := ((hFvy178 23 (by decide)).trans (fn rfl (by decide)))
    have hey193 : Fvy178 25 = F 25 := ((hFvy178 25 (by decide)).trans (fn rfl (by decide)))
    have hey194 : Fvy178 27 = F 27 := ((hFvy178 27 (by decide)).trans (fn rfl (by decide)))
    have hey195 : Fvy178 28 = F 28 := ((hFvy178 28 (by decide)).trans (fn rfl (by decide)))
    have hey196 : Fvy178 29 = F 29 := ((hFvy178 29 (by decide)).trans (fn rfl (by decide)))
    have hKy197 : okF Fvy178 := okF.mv hM.2.1 hey183 hey184 hey185 hey186 hey187 hey188 hey189 hey190 hey191 hey192 hey193 hey194 hey195 hey196
    have hMy198 : okMr cs ad gvy178 i (x + 1) Fvy178 r st op ai fa mu tb tp := okMr.upd hM hcvy178 hKy197 (fun f a => hFy182 f (by omega)) hgy181 (hA.mono (by omega)) (fun j a b => by
        exact Or.inl (by rw [hfvy178 _ (by omega)]; rw [egy25, va_up_ne _ _ (by omega)]))
    have hkpy199 : Fvy178 13 = F 13 := ((hFvy178 13 (by decide)).trans (fn rfl (by decide)))
    have hkpy200 : Fvy178 14 = F 14 := ((hFvy178 14 (by decide)).trans (fn rfl (by decide)))
    have hkpy201 : Fvy178 17 = F 17 := ((hFvy178 17 (by decide)).trans (fn rfl (by decide)))
    have hkpy202 : Fvy178 20 = F 20 := ((hFvy178 20 (by decide)).trans (fn rfl (by decide)))
    have hkpy203 : Fvy178 21 = F 21 := ((hFvy178 21 (by decide)).trans (fn rfl (by decide)))
    have hkpy204 : Fvy178 23 = F 23 := ((hFvy178 23 (by decide)).trans (fn rfl (by decide)))
    have hkpy205 : Fvy178 24 = F 24 := ((hFvy178 24 (by decide)).trans (fn rfl (by decide)))
    exact z_iret C hr hlk dX10_forecast_42 (by decide) (by decide) ⟨0, rfl, rfl, rfl, by omega, ⟨_, _, hMy198, ⟨hkpy199, hkpy200, hkpy201, hkpy202, hkpy203, hkpy204, hkpy205⟩⟩, fun j j1 => by rw [hfvy178 _ (by omega)]; rw [egy25, va_up_ne _ _ (by omega)]⟩

set_option maxRecDepth 100000 in
set_option maxHeartbeats 4000000 in
theorem c_X10_slope_a (l : Launch) (D : va_G) (A : Nat → Prop) (cs : Nat → ClassId) (tt : Nat) (N : Nat) (ad : Nat → Nat) (g : Nat → va_E) (i : Nat) (hN : i + 30 ≤ N) (x : Int) (hx : 0 ≤ x ∧ x ≤ 512) (F r : Nat → Int) {st op ai fa mu tb tp : Nat → Int} (hM : okMr cs ad g i x F r st op ai fa mu tb tp) (n : Nat) (hn4 : n < 4) (z1 : Int) (hz1 : -2147483648 ≤ z1 ∧ z1 ≤ 2147483647) : zM l yX10_slope cX10_slope 3 (some .int) ({ frames := 11, cells := 0, slots := 0, locals := 660 } : Room) D A cs tt N ad g [.ref (ad i), .int (zI ((n : Int))), .int (zI (z1))] (rI0 N ad fun q g' => (-2147483648 ≤ q ∧ q ≤ 2147483647) ∧ (∃ F' r' : Nat → Int, okMr cs ad g' i (x + 1) F' r' st op ai fa mu tb tp ∧ (F' 13 = F 13 ∧ F' 14 = F 14 ∧ F' 17 = F 17 ∧ F' 20 = F 20 ∧ F' 21 = F 21 ∧ F' 23 = F 23 ∧ F' 24 = F 24)) ∧ ∀ j, j < i ∨ i + 30 ≤ j → g' j = g j) := by
  obtain ⟨hg, ⟨⟨e13, e14, e25, e27, e29⟩, k15, k16, k17, k18, k19, k20, k23, k21⟩, hRD, hTx, hA, ns, nh, nd, rf, pi, te, ki, li, ok1, ok2, fo, dd, dps, ⟨ha1, ha2, ha3, ha4, ha5, ha6, ha7, ha8, ha9, ha10, ha11, ha12, ha13, ha14, ha15, ha24, ha25, ha26, ha27, ha28, ha29⟩, hEv, hPt, hns, htp⟩ := id hM
  obtain ⟨-, hop, hai, hfa, hT, hT1⟩ := id hEv
  have hay1 : zAt ad (i) (ad i) := rfl
  have hay2 : zAt ad (i + 1) (ad (i + 1)) := rfl
  have hay3 : zAt ad (i + 2) (ad (i + 2)) := rfl
  have hay4 : zAt ad (i + 3) (ad (i + 3)) := rfl
  have hay5 : zAt ad (i + 4) (ad (i + 4)) := rfl
  have hay6 : zAt ad (i + 5) (ad (i + 5)) := rfl
  have hay7 : zAt ad (i + 6) (ad (i + 6)) := rfl
  have hay8 : zAt ad (i + 7) (ad (i + 7)) := rfl
  have hay9 : zAt ad (i + 8) (ad (i + 8)) := rfl
  have hay10 : zAt ad (i + 9) (ad (i + 9)) := rfl
  have hay11 : zAt ad (i + 10) (ad (i + 10)) := rfl
  have hay12 : zAt ad (i + 11) (ad (i + 11)) := rfl
  have hay13 : zAt ad (i + 12) (ad (i + 12)) := rfl
  have hay14 : zAt ad (i + 13) (ad (i + 13)) := rfl
  have hay15 : zAt ad (i + 14) (ad (i + 14)) := rfl
  have hay16 : zAt ad (i + 15) (ad (i + 15)) := rfl
  have hay17 : zAt ad (i + 24) (ad (i + 24)) := rfl
  have hay18 : zAt ad (i + 25) (ad (i + 25)) := rfl
  have hay19 : zAt ad (i + 26) (ad (i + 26)) := rfl
  have hay20 : zAt ad (i + 27) (ad (i + 27)) := rfl
  have hay21 : zAt ad (i + 28) (ad (i + 28)) := rfl
  have hay22 : zAt ad (i + 29) (ad (i + 29)) := rfl
  obtain ⟨⟨hsyy23, htyy23, hnyy23, hpyy23⟩, hlyy23⟩ := okA.at0 hA
  simp only [Nat.zero_add] at hsyy23 hnyy23 hpyy23
  have hmn : ∀ s, s < 4 → 0 ≤ r (6 + 86 * s) ∧ r (6 + 86 * s) ≤ 12 := fun s hs => (hsyy23 s hs).1
  have h5 : 0 ≤ r 5 ∧ r 5 ≤ 6 := hpyy23
  refine z_of (by decide) (Nat.le_of_ble_eq_true rfl) ?_
  intro pZ eZ sZ mZ below meth cZ C hr hlk hnm
  refine z_lv (lv' := [(0, .ref (ad i)), (1, .int (zI ((n : Int)))), (2, .int (zI (z1)))]) [0, 1, 2] rfl ?_
  refine z_aload_n C 0 dX10_slope_0 rfl ?_
  refine z_iconst (z := 0) C dX10_slope_1 rfl ?_
  refine z_put (fs' := mF ad (i) (uZ F 12 (0))) C (lt_A0 hN rfl) hay1 hg tyX10 tyX10_ok nmX10 rfl inA_X10 12 (by decide) q_1471 rfl rfl rfl rfl (Nat.le_of_ble_eq_true rfl) rfl dX10_slope_2 (fun gy24 egy25 => ?_)
  have hgy26 := up_s egy25
  refine z_aload_n C 0 dX10_slope_5 rfl ?_
  refine z_iload_n C 1 dX10_slope_6 rfl ?_
  have h13vy27 : (uZ F 12 (0)) 13 = F 13 := (fn rfl (by decide))
  have hey28 : (uZ F 12 (0)) 12 = 0 := (uZ_s _ _ _)
  refine z_cV (As := [.int (zI ((n : Int)))]) (rest := []) (ci := 12) C (c_X10_isSlope l D A cs tt N ad _ i hN _ hgy26 (by omega) (by omega) ((n : Int)) (by omega)) (lt_A0 hN rfl) hay1 hgy26 rfl rfl mv_yX10_isSlope q_1803 hd_yX10_isSlope (by decide) (Nat.le_of_ble_eq_true rfl) (by decide) dX10_slope_7 rfl (kI0 fun vy27 gvy27 hvy27 => ?_)
  rw [h13vy27] at hvy27
  obtain ⟨hrvy27, ⟨Fvy27, hcvy27, htvy27, hFvy27⟩, hfvy27⟩ := hvy27
  rcases (show vy27 = 1 ∨ vy27 = 0 by omega) with rfl | rfl
  · have hxvy27 := hrvy27.2 rfl
    refine z_if_eq (tgt := 28) C dX10_slope_10 (by decide) (by omega) (fun h => absurd h (by omega)) (fun _ => ?_)
    refine z_aload_n C 0 dX10_slope_13 rfl ?_
    refine z_iload_n C 2 dX10_slope_14 rfl ?_
    refine z_iconst (z := 0) C dX10_slope_15 rfl ?_
    refine z_bipush (z := 9) C dX10_slope_16 (by decide) ?_
    refine z_cS (As := [.int (zI (z1)), .int (zI (0)), .int (zI (9))]) (rest := [.ref (ad i)]) C (c_X10_within l D A cs tt N ad _ (z1) (by omega) (0) (by omega) (9) (by omega)) ms_yX10_within q_1686 hd_yX10_within (by decide) (Nat.le_of_ble_eq_true rfl) (by decide) dX10_slope_18 rfl (kI0 fun vy29 gvy29 hvy29 => ?_)
    obtain ⟨hvy29, rfl⟩ := hvy29
    rcases hvy29 with ⟨rfl, hxvy29⟩ | ⟨rfl, hxvy29⟩
    · refine z_iconst (z := 1) C dX10_slope_21 rfl ?_
      have hey31 : Fvy27 12 = Fvy27 12 := rfl
      refine z_cV (As := [.int (zI (1)), .int (zI (1))]) (rest := []) (ci := 12) C (c_X10_right l D A cs tt N ad _ i hN _ hcvy27 (by omega) (1) (by omega) (1) (by omega)) (lt_A0 hN rfl) hay1 hcvy27 rfl rfl mv_yX10_right q_1648 hd_yX10_right (by decide) (Nat.le_of_ble_eq_true rfl) (by decide) dX10_slope_22 rfl (kI0 fun vy30 gvy30 hvy30 => ?_)
      obtain ⟨hrvy30, ⟨Fvy30, hcvy30, htvy30, hFvy30⟩, hfvy30⟩ := hvy30
      rcases (show vy30 = 1 ∨ vy30 = 0 by omega) with rfl | rfl
      · refine z_if_ne (tgt := 30) C dX10_slope_25 (by decide) (by omega) (fun _ => ?_) (fun h => absurd h (by omega))
        refine z_iload_n C 2 dX10_slope_30 rfl ?_
        by_cases hsy32 : z1 ≠ 0 ∧ z1 ≠ 1 ∧ z1 ≠ 2 ∧ z1 ≠ 3 ∧ z1 ≠ 4 ∧ z1 ≠ 5 ∧ z1 ≠ 6 ∧ z1 ≠ 7 ∧ z1 ≠ 8
        · refine z_tout (tgt := 154) C dX10_slope_31 (by omega) (by omega) (by decide) ?_
          refine z_aload_n C 0 dX10_slope_154 rfl ?_
          refine z_iconst (z := 0) C dX10_slope_155 rfl ?_
          refine z_iload_n C 1 dX10_slope_156 rfl ?_
          obtain ⟨py33, hpy33⟩ : ∃ p9 : Nat, 0 + 6 + 86 * n = p9 := ⟨_, rfl⟩
          have hgy34 := up_n egy25 ha1 (ne_o (i := i) (c := 1) (d := 0) rfl)
          have hgy35 := (hfvy27 (i + 1) (ne_o (i := i) (c := 1) (d := 0) rfl)).trans hgy34
          have hgy36 := (hfvy30 (i + 1) (ne_o (i := i) (c := 1) (d := 0) rfl)).trans hgy35
          have hgy38 := up_n egy25 ha2 (ne_o (i := i) (c := 2) (d := 0) rfl)
          have hgy39 := (hfvy27 (i + 2) (ne_o (i := i) (c := 2) (d := 0) rfl)).trans hgy38
          have hgy40 := (hfvy30 (i + 2) (ne_o (i := i) (c := 2) (d := 0) rfl)).trans hgy39
          have hgy41 := up_n egy25 ha7 (ne_o (i := i) (c := 7) (d := 0) rfl)
          have hgy42 := (hfvy27 (i + 7) (ne_o (i := i) (c := 7) (d := 0) rfl)).trans hgy41
          have hgy43 := (hfvy30 (i + 7) (ne_o (i := i) (c := 7) (d := 0) rfl)).trans hgy42
          have hqy44 : qS r py33 := (((okA.at0 hA).1.1 n (by omega)).of (p2 := py33) (by omega)).q (by have hb9 := mBb (t := r 0 + x) (by omega); omega)
          have hmky45 := hqy44.1
          refine z_cV (As := [.int (zI (0)), .int (zI ((n : Int)))]) (rest := []) (ci := 12) C (c_X10_isUnstable l D A cs tt N ad _ i hN _ hcvy30 _ hgy36 _ hgy40 _ hgy43 0 n py33 hpy33 (by omega) (by omega) hqy44) (lt_A0 hN rfl) hay1 hcvy30 rfl rfl mv_yX10_isUnstable q_1811 hd_yX10_isUnstable (by decide) (Nat.le_of_ble_eq_true rfl) (by decide) dX10_slope_157 rfl (kI0 fun vy37 gvy37 hvy37 => ?_)
          obtain ⟨hvy37, rfl⟩ := hvy37
          refine z_if_eq (tgt := 167) C dX10_slope_160 (by decide) (by omega) (fun hby46 => ?_) (fun hby46 => ?_)
          · refine z_iconst (z := 0) C dX10_slope_167 rfl ?_
            have hFy47 : ∀ f, f ≠ 12 → Fvy30 f = F f := fun f n12 => ((hFvy30 f n12).trans ((hFvy27 f n12).trans ((uZ_n _ _ n12).trans rfl)))
            have hey48 : Fvy30 13 = F 13 := ((hFvy30 13 (by decide)).trans ((hFvy27 13 (by decide)).trans (fn rfl (by decide))))
            have hey49 : Fvy30 14 = F 14 := ((hFvy30 14 (by decide)).trans ((hFvy27 14 (by decide)).trans (fn rfl (by decide))))
            have hey50 : Fvy30 15 = F 15 := ((hFvy30 15 (by decide)).trans ((hFvy27 15 (by decide)).trans (fn rfl (by decide))))
            have hey51 : Fvy30 16 = F 16 := ((hFvy30 16 (by decide)).trans ((hFvy27 16 (by decide)).trans (fn rfl (by decide))))
            have hey52 : Fvy30 17 = F 17 := ((hFvy30 17 (by decide)).trans ((hFvy27 17 (by decide)).trans (fn rfl (by decide))))
            have hey53 : Fvy30 18 = F 18 := ((hFvy30 18 (by decide)).trans ((hFvy27 18 (by decide)).trans (fn rfl (by decide))))
            have hey54 : Fvy30 19 = F 19 := ((hFvy30 19 (by decide)).trans ((hFvy27 19 (by decide)).trans (fn rfl (by decide))))
            have hey55 : Fvy30 20 = F 20 := ((hFvy30 20 (by decide)).trans ((hFvy27 20 (by decide)).trans (fn rfl (by decide))))
            have hey56 : Fvy30 21 = F 21 := ((hFvy30 21 (by decide)).trans ((hFvy27 21 (by decide)).trans (fn rfl (by decide))))
            have hey57 : Fvy30 23 = F 23 := ((hFvy30 23 (by decide)).trans ((hFvy27 23 (by decide)).trans (fn rfl (by decide))))
            have hey58 : Fvy30 25 = F 25 := ((hFvy30 25 (by decide)).trans ((hFvy27 25 (by decide)).trans (fn rfl (by decide))))
            have hey59 : Fvy30 27 = F 27 := ((hFvy30 27 (by decide)).trans ((hFvy27 27 (by decide)).trans (fn rfl (by decide))))
            have hey60 : Fvy30 28 = F 28 := ((hFvy30 28 (by decide)).trans ((hFvy27 28 (by decide)).trans (fn rfl (by decide))))
            have hey61 : Fvy30 29 = F 29 := ((hFvy30 29 (by decide)).trans ((hFvy27 29 (by decide)).trans (fn rfl (by decide))))
            have hKy62 : okF Fvy30 := okF.mv hM.2.1 hey48 hey49 hey50 hey51 hey52 hey53 hey54 hey55 hey56 hey57 hey58 hey59 hey60 hey61
            have hMy63 : okMr cs ad gvy30 i (x + 1) Fvy30 r st op ai fa mu tb tp := okMr.upd hM hcvy30 hKy62 (fun f a => hFy47 f (by omega)) hgy36 (hA.mono (by omega)) (fun j a b => by
                exact Or.inl (by rw [hfvy30 _ (by omega)]; rw [hfvy27 _ (by omega)]; rw [egy25, va_up_ne _ _ (by omega)]))
            have hkpy64 : Fvy30 13 = F 13 := ((hFvy30 13 (by decide)).trans ((hFvy27 13 (by decide)).trans (fn rfl (by decide))))
            have hkpy65 : Fvy30 14 = F 14 := ((hFvy30 14 (by decide)).trans ((hFvy27 14 (by decide)).trans (fn rfl (by decide))))
            have hkpy66 : Fvy30 17 = F 17 := ((hFvy30 17 (by decide)).trans ((hFvy27 17 (by decide)).trans (fn rfl (by decide))))
            have hkpy67 : Fvy30 20 = F 20 := ((hFvy30 20 (by decide)).trans ((hFvy27 20 (by decide)).trans (fn rfl (by decide))))
            have hkpy68 : Fvy30 21 = F 21 := ((hFvy30 21 (by decide)).trans ((hFvy27 21 (by decide)).trans (fn rfl (by decide))))
            have hkpy69 : Fvy30 23 = F 23 := ((hFvy30 23 (by decide)).trans ((hFvy27 23 (by decide)).trans (fn rfl (by decide))))
            have hkpy70 : Fvy30 24 = F 24 := ((hFvy30 24 (by decide)).trans ((hFvy27 24 (by decide)).trans (fn rfl (by decide))))
            exact z_iret C hr hlk dX10_slope_168 (by decide) (by decide) ⟨0, rfl, rfl, rfl, by omega, ⟨_, _, hMy63, ⟨hkpy64, hkpy65, hkpy66, hkpy67, hkpy68, hkpy69, hkpy70⟩⟩, fun j j1 => by rw [hfvy30 _ (by omega)]; rw [hfvy27 _ (by omega)]; rw [egy25, va_up_ne _ _ (by omega)]⟩
          · refine z_iconst (z := 1) C dX10_slope_163 rfl ?_
            refine z_goto (tgt := 168) C dX10_slope_164 (by decide) ?_
            have hFy71 : ∀ f, f ≠ 12 → Fvy30 f = F f := fun f n12 => ((hFvy30 f n12).trans ((hFvy27 f n12).trans ((uZ_n _ _ n12).trans rfl)))
            have hey72 : Fvy30 13 = F 13 := ((hFvy30 13 (by decide)).trans ((hFvy27 13 (by decide)).trans (fn rfl (by decide))))
            have hey73 : Fvy30 14 = F 14 := ((hFvy30 14 (by decide)).trans ((hFvy27 14 (by decide)).trans (fn rfl (by decide))))
            have hey74 : Fvy30 15 = F 15 := ((hFvy30 15 (by decide)).trans ((hFvy27 15 (by decide)).trans (fn rfl (by decide))))
            have hey75 : Fvy30 16 = F 16 := ((hFvy30 16 (by decide)).trans ((hFvy27 16 (by decide)).trans (fn rfl (by decide))))
            have hey76 : Fvy30 17 = F 17 := ((hFvy30 17 (by decide)).trans ((hFvy27 17 (by decide)).trans (fn rfl (by decide))))
            have hey77 : Fvy30 18 = F 18 := ((hFvy30 18 (by decide)).trans ((hFvy27 18 (by decide)).trans (fn rfl (by decide))))
            have hey78 : Fvy30 19 = F 19 := ((hFvy30 19 (by decide)).trans ((hFvy27 19 (by decide)).trans (fn rfl (by decide))))
            have hey79 : Fvy30 20 = F 20 := ((hFvy30 20 (by decide)).trans ((hFvy27 20 (by decide)).trans (fn rfl (by decide))))
            have hey80 : Fvy30 21 = F 21 := ((hFvy30 21 (by decide)).trans ((hFvy27 21 (by decide)).trans (fn rfl (by decide))))
            have hey81 : Fvy30 23 = F 23 := ((hFvy30 23 (by decide)).trans ((hFvy27 23 (by decide)).trans (fn rfl (by decide))))
            have hey82 : Fvy30 25 = F 25 := ((hFvy30 25 (by decide)).trans ((hFvy27 25 (by decide)).trans (fn rfl (by decide))))
            have hey83 : Fvy30 27 = F 27 := ((hFvy30 27 (by decide)).trans ((hFvy27 27 (by decide)).trans (fn rfl (by decide))))
            have hey84 : Fvy30 28 = F 28 := ((hFvy30 28 (by decide)).trans ((hFvy27 28 (by decide)).trans (fn rfl (by decide))))
            have hey85 : Fvy30 29 = F 29 := ((hFvy30 29 (by decide)).trans ((hFvy27 29 (by decide)).trans (fn rfl (by decide))))
            have hKy86 : okF Fvy30 := okF.mv hM.2.1 hey72 hey73 hey74 hey75 hey76 hey77 hey78 hey79 hey80 hey81 hey82 hey83 hey84 hey85
            have hMy87 : okMr cs ad gvy30 i (x + 1) Fvy30 r st op ai fa mu tb tp := okMr.upd hM hcvy30 hKy86 (fun f a => hFy71 f (by omega)) hgy36 (hA.mono (by omega)) (fun j a b => by
                exact Or.inl (by rw [hfvy30 _ (by omega)]; rw [hfvy27 _ (by omega)]; rw [egy25, va_up_ne _ _ (by omega)]))
            have hkpy88 : Fvy30 13 = F 13 := ((hFvy30 13 (by decide)).trans ((hFvy27 13 (by decide)).trans (fn rfl (by decide))))
            have hkpy89 : Fvy30 14 = F 14 := ((hFvy30 14 (by decide)).trans ((hFvy27 14 (by decide)).trans (fn rfl (by decide))))
            have hkpy90 : Fvy30 17 = F 17 := ((hFvy30 17 (by decide)).trans ((hFvy27 17 (by decide)).trans (fn rfl (by decide))))
            have hkpy91 : Fvy30 20 = F 20 := ((hFvy30 20 (by decide)).trans ((hFvy27 20 (by decide)).trans (fn rfl (by decide))))
            have hkpy92 : Fvy30 21 = F 21 := ((hFvy30 21 (by decide)).trans ((hFvy27 21 (by decide)).trans (fn rfl (by decide))))
            have hkpy93 : Fvy30 23 = F 23 := ((hFvy30 23 (by decide)).trans ((hFvy27 23 (by decide)).trans (fn rfl (by decide))))
            have hkpy94 : Fvy30 24 = F 24 := ((hFvy30 24 (by decide)).trans ((hFvy27 24 (by decide)).trans (fn rfl (by decide))))
            exact z_iret C hr hlk dX10_slope_168 (by decide) (by decide) ⟨1, rfl, rfl, rfl, by omega, ⟨_, _, hMy87, ⟨hkpy88, hkpy89, hkpy90, hkpy91, hkpy92, hkpy93, hkpy94⟩⟩, fun j j1 => by rw [hfvy30 _ (by omega)]; rw [hfvy27 _ (by omega)]; rw [egy25, va_up_ne _ _ (by omega)]⟩
        · rcases (show z1 = 0 ∨ z1 = 1 ∨ z1 = 2 ∨ z1 = 3 ∨ z1 = 4 ∨ z1 = 5 ∨ z1 = 6 ∨ z1 = 7 ∨ z1 = 8 by omega) with rfl | rfl | rfl | rfl | rfl | rfl | rfl | rfl | rfl
          · refine z_tin (off := 49) (tgt := 80) C dX10_slope_31 (by omega) (by omega) (by omega) rfl (by decide) ?_
            refine z_aload_n C 0 dX10_slope_80 rfl ?_
            refine z_get (v := .ref (ad (i + 2))) C (lt_A0 hN rfl) hay1 hcvy30 rfl inA_X10 1 (by decide) q_1460 rfl rfl dX10_slope_81 ?_
            refine z_iload_n C 1 dX10_slope_84 rfl ?_
            have hgy95 := up_n egy25 ha2 (ne_o (i := i) (c := 2) (d := 0) rfl)
            have hgy96 := (hfvy27 (i + 2) (ne_o (i := i) (c := 2) (d := 0) rfl)).trans hgy95
            have hgy97 := (hfvy30 (i + 2) (ne_o (i := i) (c := 2) (d := 0) rfl)).trans hgy96
            refine z_iald C (lt_A (c := 2) hN rfl) hay3 hgy97 (n) (by omega) (by omega) (by decide) dX10_slope_85 ?_
            obtain ⟨xy98, exy99, hxy100⟩ := zI_of (zI (st (n)))
            rw [exy99]
            have hgy101 := up_n egy25 ha1 (ne_o (i := i) (c := 1) (d := 0) rfl)
            have hgy102 := (hfvy27 (i + 1) (ne_o (i := i) (c := 1) (d := 0) rfl)).trans hgy101
            have hgy103 := (hfvy30 (i + 1) (ne_o (i := i) (c := 1) (d := 0) rfl)).trans hgy102
            have hFy104 : ∀ f, f ≠ 12 → Fvy30 f = F f := fun f n12 => ((hFvy30 f n12).trans ((hFvy27 f n12).trans ((uZ_n _ _ n12).trans rfl)))
            have hey105 : Fvy30 13 = F 13 := ((hFvy30 13 (by decide)).trans ((hFvy27 13 (by decide)).trans (fn rfl (by decide))))
            have hey106 : Fvy30 14 = F 14 := ((hFvy30 14 (by decide)).trans ((hFvy27 14 (by decide)).trans (fn rfl (by decide))))
            have hey107 : Fvy30 15 = F 15 := ((hFvy30 15 (by decide)).trans ((hFvy27 15 (by decide)).trans (fn rfl (by decide))))
            have hey108 : Fvy30 16 = F 16 := ((hFvy30 16 (by decide)).trans ((hFvy27 16 (by decide)).trans (fn rfl (by decide))))
            have hey109 : Fvy30 17 = F 17 := ((hFvy30 17 (by decide)).trans ((hFvy27 17 (by decide)).trans (fn rfl (by decide))))
            have hey110 : Fvy30 18 = F 18 := ((hFvy30 18 (by decide)).trans ((hFvy27 18 (by decide)).trans (fn rfl (by decide))))
            have hey111 : Fvy30 19 = F 19 := ((hFvy30 19 (by decide)).trans ((hFvy27 19 (by decide)).trans (fn rfl (by decide))))
            have hey112 : Fvy30 20 = F 20 := ((hFvy30 20 (by decide)).trans ((hFvy27 20 (by decide)).trans (fn rfl (by decide))))
            have hey113 : Fvy30 21 = F 21 := ((hFvy30 21 (by decide)).trans ((hFvy27 21 (by decide)).trans (fn rfl (by decide))))
            have hey114 : Fvy30 23 = F 23 := ((hFvy30 23 (by decide)).trans ((hFvy27 23 (by decide)).trans (fn rfl (by decide))))
            have hey115 : Fvy30 25 = F 25 := ((hFvy30 25 (by decide)).trans ((hFvy27 25 (by decide)).trans (fn rfl (by decide))))
            have hey116 : Fvy30 27 = F 27 := ((hFvy30 27 (by decide)).trans ((hFvy27 27 (by decide)).trans (fn rfl (by decide))))
            have hey117 : Fvy30 28 = F 28 := ((hFvy30 28 (by decide)).trans ((hFvy27 28 (by decide)).trans (fn rfl (by decide))))
            have hey118 : Fvy30 29 = F 29 := ((hFvy30 29 (by decide)).trans ((hFvy27 29 (by decide)).trans (fn rfl (by decide))))
            have hKy119 : okF Fvy30 := okF.mv hM.2.1 hey105 hey106 hey107 hey108 hey109 hey110 hey111 hey112 hey113 hey114 hey115 hey116 hey117 hey118
            have hMy120 : okMr cs ad gvy30 i (x + 1) Fvy30 r st op ai fa mu tb tp := okMr.upd hM hcvy30 hKy119 (fun f a => hFy104 f (by omega)) hgy103 (hA.mono (by omega)) (fun j a b => by
                exact Or.inl (by rw [hfvy30 _ (by omega)]; rw [hfvy27 _ (by omega)]; rw [egy25, va_up_ne _ _ (by omega)]))
            have hkpy121 : Fvy30 13 = F 13 := ((hFvy30 13 (by decide)).trans ((hFvy27 13 (by decide)).trans (fn rfl (by decide))))
            have hkpy122 : Fvy30 14 = F 14 := ((hFvy30 14 (by decide)).trans ((hFvy27 14 (by decide)).trans (fn rfl (by decide))))
            have hkpy123 : Fvy30 17 = F 17 := ((hFvy30 17 (by decide)).trans ((hFvy27 17 (by decide)).trans (fn rfl (by decide))))
            have hkpy124 : Fvy30 20 = F 20 := ((hFvy30 20 (by decide)).trans ((hFvy27 20 (by decide)).trans (fn rfl (by decide))))
            have hkpy125 : Fvy30 21 = F 21 := ((hFvy30 21 (by decide)).trans ((hFvy27 21 (by decide)).trans (fn rfl (by decide))))
            have hkpy126 : Fvy30 23 = F 23 := ((hFvy30 23 (by decide)).trans ((hFvy27 23 (by decide)).trans (fn rfl (by decide))))
            have hkpy127 : Fvy30 24 = F 24 := ((hFvy30 24 (by decide)).trans ((hFvy27 24 (by decide)).trans (fn rfl (by decide))))
            exact z_iret C hr hlk dX10_slope_86 (by decide) (by decide) ⟨xy98, rfl, rfl, rfl, by omega, ⟨_, _, hMy120, ⟨hkpy121, hkpy122, hkpy123, hkpy124, hkpy125, hkpy126, hkpy127⟩⟩, fun j j1 => by rw [hfvy30 _ (by omega)]; rw [hfvy27 _ (by omega)]; rw [egy25, va_up_ne _ _ (by omega)]⟩
          · refine z_tin (off := 56) (tgt := 87) C dX10_slope_31 (by omega) (by omega) (by omega) rfl (by decide) ?_
            refine z_aload_n C 0 dX10_slope_87 rfl ?_
            refine z_get (v := .ref (ad (i + 3))) C (lt_A0 hN rfl) hay1 hcvy30 rfl inA_X10 2 (by decide) q_1461 rfl rfl dX10_slope_88 ?_
            refine z_iload_n C 1 dX10_slope_91 rfl ?_
            have hgy128 := up_n egy25 ha3 (ne_o (i := i) (c := 3) (d := 0) rfl)
            have hgy129 := (hfvy27 (i + 3) (ne_o (i := i) (c := 3) (d := 0) rfl)).trans hgy128
            have hgy130 := (hfvy30 (i + 3) (ne_o (i := i) (c := 3) (d := 0) rfl)).trans hgy129
            refine z_iald C (lt_A (c := 3) hN rfl) hay4 hgy130 (n) (by omega) (by omega) (by decide) dX10_slope_92 ?_
            have hrfy131 := hop (n) (by omega)
            have hgy132 := up_n egy25 ha1 (ne_o (i := i) (c := 1) (d := 0) rfl)
            have hgy133 := (hfvy27 (i + 1) (ne_o (i := i) (c := 1) (d := 0) rfl)).trans hgy132
            have hgy134 := (hfvy30 (i + 1) (ne_o (i := i) (c := 1) (d := 0) rfl)).trans hgy133
            have hFy135 : ∀ f, f ≠ 12 → Fvy30 f = F f := fun f n12 => ((hFvy30 f n12).trans ((hFvy27 f n12).trans ((uZ_n _ _ n12).trans rfl)))
            have hey136 : Fvy30 13 = F 13 := ((hFvy30 13 (by decide)).trans ((hFvy27 13 (by decide)).trans (fn rfl (by decide))))
            have hey137 : Fvy30 14 = F 14 := ((hFvy30 14 (by decide)).trans ((hFvy27 14 (by decide)).trans (fn rfl (by decide))))
            have hey138 : Fvy30 15 = F 15 := ((hFvy30 15 (by decide)).trans ((hFvy27 15 (by decide)).trans (fn rfl (by decide))))
            have hey139 : Fvy30 16 = F 16 := ((hFvy30 16 (by decide)).trans ((hFvy27 16 (by decide)).trans (fn rfl (by decide))))
            have hey140 : Fvy30 17 = F 17 := ((hFvy30 17 (by decide)).trans ((hFvy27 17 (by decide)).trans (fn rfl (by decide))))
            have hey141 : Fvy30 18 = F 18 := ((hFvy30 18 (by decide)).trans ((hFvy27 18 (by decide)).trans (fn rfl (by decide))))
            have hey142 : Fvy30 19 = F 19 := ((hFvy30 19 (by decide)).trans ((hFvy27 19 (by decide)).trans (fn rfl (by decide))))
            have hey143 : Fvy30 20 = F 20 := ((hFvy30 20 (by decide)).trans ((hFvy27 20 (by decide)).trans (fn rfl (by decide))))
            have hey144 : Fvy30 21 = F 21 := ((hFvy30 21 (by decide)).trans ((hFvy27 21 (by decide)).trans (fn rfl (by decide))))
            have hey145 : Fvy30 23 = F 23 := ((hFvy30 23 (by decide)).trans ((hFvy27 23 (by decide)).trans (fn rfl (by decide))))
            have hey146 : Fvy30 25 = F 25 := ((hFvy30 25 (by decide)).trans ((hFvy27 25 (by decide)).trans (fn rfl (by decide))))
            have hey147 : Fvy30 27 = F 27 := ((hFvy30 27 (by decide)).trans ((hFvy27 27 (by decide)).trans (fn rfl (by decide))))
            have hey148 : Fvy30 28 = F 28 := ((hFvy30 28 (by decide)).trans ((hFvy27 28 (by decide)).trans (fn rfl (by decide))))
            have hey149 : Fvy30 29 = F 29 := ((hFvy30 29 (by decide)).trans ((hFvy27 29 (by decide)).trans (fn rfl (by decide))))
            have hKy150 : okF Fvy30 := okF.mv hM.2.1 hey136 hey137 hey138 hey139 hey140 hey141 hey142 hey143 hey144 hey145 hey146 hey147 hey148 hey149
            have hMy151 : okMr cs ad gvy30 i (x + 1) Fvy30 r st op ai fa mu tb tp := okMr.upd hM hcvy30 hKy150 (fun f a => hFy135 f (by omega)) hgy134 (hA.mono (by omega)) (fun j a b => by
                exact Or.inl (by rw [hfvy30 _ (by omega)]; rw [hfvy27 _ (by omega)]; rw [egy25, va_up_ne _ _ (by omega)]))
            have hkpy152 : Fvy30 13 = F 13 := ((hFvy30 13 (by decide)).trans ((hFvy27 13 (by decide)).trans (fn rfl (by decide))))
            have hkpy153 : Fvy30 14 = F 14 := ((hFvy30 14 (by decide)).trans ((hFvy27 14 (by decide)).trans (fn rfl (by decide))))
            have hkpy154 : Fvy30 17 = F 17 := ((hFvy30 17 (by decide)).trans ((hFvy27 17 (by decide)).trans (fn rfl (by decide))))
            have hkpy155 : Fvy30 20 = F 20 := ((hFvy30 20 (by decide)).trans ((hFvy27 20 (by decide)).trans (fn rfl (by decide))))
            have hkpy156 : Fvy30 21 = F 21 := ((hFvy30 21 (by decide)).trans ((hFvy27 21 (by decide)).trans (fn rfl (by decide))))
            have hkpy157 : Fvy30 23 = F 23 := ((hFvy30 23 (by decide)).trans ((hFvy27 23 (by decide)).trans (fn rfl (by decide))))
            have hkpy158 : Fvy30 24 = F 24 := ((hFvy30 24 (by decide)).trans ((hFvy27 24 (by decide)).trans (fn rfl (by decide))))
            exact z_iret C hr hlk dX10_slope_93 (by decide) (by decide) ⟨op (n), rfl, rfl, rfl, by omega, ⟨_, _, hMy151, ⟨hkpy152, hkpy153, hkpy154, hkpy155, hkpy156, hkpy157, hkpy158⟩⟩, fun j j1 => by rw [hfvy30 _ (by omega)]; rw [hfvy27 _ (by omega)]; rw [egy25, va_up_ne _ _ (by omega)]⟩
          · refine z_tin (off := 63) (tgt := 94) C dX10_slope_31 (by omega) (by omega) (by omega) rfl (by decide) ?_
            refine z_aload_n C 0 dX10_slope_94 rfl ?_
            refine z_iconst (z := 0) C dX10_slope_95 rfl ?_
            refine z_iload_n C 1 dX10_slope_96 rfl ?_
            obtain ⟨py159, hpy159⟩ : ∃ p9 : Nat, 0 + 6 + 86 * n = p9 := ⟨_, rfl⟩
            have hmyy160 := ((okA.at0 hA).1.1 n (by omega)).1
            rw [hpy159] at hmyy160
            have hgy161 := up_n egy25 ha1 (ne_o (i := i) (c := 1) (d := 0) rfl)
            have hgy162 := (hfvy27 (i + 1) (ne_o (i := i) (c := 1) (d := 0) rfl)).trans hgy161
            have hgy163 := (hfvy30 (i + 1) (ne_o (i := i) (c := 1) (d := 0) rfl)).trans hgy162
            refine z_cV (As := [.int (zI (0)), .int (zI ((n : Int)))]) (rest := []) (ci := 12) C (c_X10_many l D A cs tt N ad _ i hN _ hcvy30 _ hgy163 0 n py159 hpy159 (by omega) (by omega)) (lt_A0 hN rfl) hay1 hcvy30 rfl rfl mv_yX10_many q_1733 hd_yX10_many (by decide) (Nat.le_of_ble_eq_true rfl) (by decide) dX10_slope_97 rfl (kI0 fun vy164 gvy164 hvy164 => ?_)
            obtain ⟨rfl, rfl⟩ := hvy164
            have hFy165 : ∀ f, f ≠ 12 → Fvy30 f = F f := fun f n12 => ((hFvy30 f n12).trans ((hFvy27 f n12).trans ((uZ_n _ _ n12).trans rfl)))
            have hey166 : Fvy30 13 = F 13 := ((hFvy30 13 (by decide)).trans ((hFvy27 13 (by decide)).trans (fn rfl (by decide))))
            have hey167 : Fvy30 14 = F 14 := ((hFvy30 14 (by decide)).trans ((hFvy27 14 (by decide)).trans (fn rfl (by decide))))
            have hey168 : Fvy30 15 = F 15 := ((hFvy30 15 (by decide)).trans ((hFvy27 15 (by decide)).trans (fn rfl (by decide))))
            have hey169 : Fvy30 16 = F 16 := ((hFvy30 16 (by decide)).trans ((hFvy27 16 (by decide)).trans (fn rfl (by decide))))
            have hey170 : Fvy30 17 = F 17 := ((hFvy30 17 (by decide)).trans ((hFvy27 17 (by decide)).trans (fn rfl (by decide))))
            have hey171 : Fvy30 18 = F 18 := ((hFvy30 18 (by decide)).trans ((hFvy27 18 (by decide)).trans (fn rfl (by decide))))
            have hey172 : Fvy30 19 = F 19 := ((hFvy30 19 (by decide)).trans ((hFvy27 19 (by decide)).trans (fn rfl (by decide))))
            have hey173 : Fvy30 20 = F 20 := ((hFvy30 20 (by decide)).trans ((hFvy27 20 (by decide)).trans (fn rfl (by decide))))
            have hey174 : Fvy30 21 = F 21 := ((hFvy30 21 (by decide)).trans ((hFvy27 21 (by decide)).trans (fn rfl (by decide))))
            have hey175 : Fvy30 23 = F 23 := ((hFvy30 23 (by decide)).trans ((hFvy27 23 (by decide)).trans (fn rfl (by decide))))
            have hey176 : Fvy30 25 = F 25 := ((hFvy30 25 (by decide)).trans ((hFvy27 25 (by decide)).trans (fn rfl (by decide))))
            have hey177 : Fvy30 27 = F 27 := ((hFvy30 27 (by decide)).trans ((hFvy27 27 (by decide)).trans (fn rfl (by decide))))
            have hey178 : Fvy30 28 = F 28 := ((hFvy30 28 (by decide)).trans ((hFvy27 28 (by decide)).trans (fn rfl (by decide))))
            have hey179 : Fvy30 29 = F 29 := ((hFvy30 29 (by decide)).trans ((hFvy27 29 (by decide)).trans (fn rfl (by decide))))
            have hKy180 : okF Fvy30 := okF.mv hM.2.1 hey166 hey167 hey168 hey169 hey170 hey171 hey172 hey173 hey174 hey175 hey176 hey177 hey178 hey179
            have hMy181 : okMr cs ad gvy30 i (x + 1) Fvy30 r st op ai fa mu tb tp := okMr.upd hM hcvy30 hKy180 (fun f a => hFy165 f (by omega)) hgy163 (hA.mono (by omega)) (fun j a b => by
                exact Or.inl (by rw [hfvy30 _ (by omega)]; rw [hfvy27 _ (by omega)]; rw [egy25, va_up_ne _ _ (by omega)]))
            have hkpy182 : Fvy30 13 = F 13 := ((hFvy30 13 (by decide)).trans ((hFvy27 13 (by decide)).trans (fn rfl (by decide))))
            have hkpy183 : Fvy30 14 = F 14 := ((hFvy30 14 (by decide)).trans ((hFvy27 14 (by decide)).trans (fn rfl (by decide))))
            have hkpy184 : Fvy30 17 = F 17 := ((hFvy30 17 (by decide)).trans ((hFvy27 17 (by decide)).trans (fn rfl (by decide))))
            have hkpy185 : Fvy30 20 = F 20 := ((hFvy30 20 (by decide)).trans ((hFvy27 20 (by decide)).trans (fn rfl (by decide))))
            have hkpy186 : Fvy30 21 = F 21 := ((hFvy30 21 (by decide)).trans ((hFvy27 21 (by decide)).trans (fn rfl (by decide))))
            have hkpy187 : Fvy30 23 = F 23 := ((hFvy30 23 (by decide)).trans ((hFvy27 23 (by decide)).trans (fn rfl (by decide))))
            have hkpy188 : Fvy30 24 = F 24 := ((hFvy30 24 (by decide)).trans ((hFvy27 24 (by decide)).trans (fn rfl (by decide))))
            exact z_iret C hr hlk dX10_slope_100 (by decide) (by decide) ⟨r (py159), rfl, rfl, rfl, by omega, ⟨_, _, hMy181, ⟨hkpy182, hkpy183, hkpy184, hkpy185, hkpy186, hkpy187, hkpy188⟩⟩, fun j j1 => by rw [hfvy30 _ (by omega)]; rw [hfvy27 _ (by omega)]; rw [egy25, va_up_ne _ _ (by omega)]⟩
          · refine z_tin (off := 70) (tgt := 101) C dX10_slope_31 (by omega) (by omega) (by omega) rfl (by decide) ?_
            refine z_aload_n C 0 dX10_slope_101 rfl ?_
            refine z_iconst (z := 0) C dX10_slope_102 rfl ?_
            refine z_iload_n C 1 dX10_slope_103 rfl ?_
            refine z_iconst (z := 3) C dX10_slope_104 rfl ?_
            obtain ⟨py189, hpy189⟩ : ∃ p9 : Nat, 0 + 6 + 86 * n = p9 := ⟨_, rfl⟩
            have hgy190 := up_n egy25 ha1 (ne_o (i := i) (c := 1) (d := 0) rfl)
            have hgy191 := (hfvy27 (i + 1) (ne_o (i := i) (c := 1) (d := 0) rfl)).trans hgy190
            have hgy192 := (hfvy30 (i + 1) (ne_o (i := i) (c := 1) (d := 0) rfl)).trans hgy191
            have hqy194 : qS r py189 := (((okA.at0 hA).1.1 n (by omega)).of (p2 := py189) (by omega)).q (by have hb9 := mBb (t := r 0 + x) (by omega); omega)
            have hmky195 := hqy194.1
            refine z_cV (As := [.int (zI (0)), .int (zI ((n : Int))), .int (zI (3))]) (rest := []) (ci := 12) C (c_X10_sumA l D A cs tt N ad _ i hN _ hcvy30 _ hgy192 0 n py189 hpy189 (by omega) (by omega) hqy194 3 (by omega)) (lt_A0 hN rfl) hay1 hcvy30 rfl rfl mv_yX10_sum q_1745 hd_yX10_sum (by decide) (Nat.le_of_ble_eq_true rfl) (by decide) dX10_slope_105 rfl (kI0 fun vy193 gvy193 hvy193 => ?_)
            obtain ⟨hvy193, rfl⟩ := hvy193
            have hFy196 : ∀ f, f ≠ 12 → Fvy30 f = F f := fun f n12 => ((hFvy30 f n12).trans ((hFvy27 f n12).trans ((uZ_n _ _ n12).trans rfl)))
            have hey197 : Fvy30 13 = F 13 := ((hFvy30 13 (by decide)).trans ((hFvy27 13 (by decide)).trans (fn rfl (by decide))))
            have hey198 : Fvy30 14 = F 14 := ((hFvy30 14 (by decide)).trans ((hFvy27 14 (by decide)).trans (fn rfl (by decide))))
            have hey199 : Fvy30 15 = F 15 := ((hFvy30 15 (by decide)).trans ((hFvy27 15 (by decide)).trans (fn rfl (by decide))))
            have hey200 : Fvy30 16 = F 16 := ((hFvy30 16 (by decide)).trans ((hFvy27 16 (by decide)).trans (fn rfl (by decide))))
            have hey201 : Fvy30 17 = F 17 := ((hFvy30 17 (by decide)).trans ((hFvy27 17 (by decide)).trans (fn rfl (by decide))))
            have hey202 : Fvy30 18 = F 18 := ((hFvy30 18 (by decide)).trans ((hFvy27 18 (by decide)).trans (fn rfl (by decide))))
            have hey203 : Fvy30 19 = F 19 := ((hFvy30 19 (by decide)).trans ((hFvy27 19 (by decide)).trans (fn rfl (by decide))))
            have hey204 : Fvy30 20 = F 20 := ((hFvy30 20 (by decide)).trans ((hFvy27 20 (by decide)).trans (fn rfl (by decide))))
            have hey205 : Fvy30 21 = F 21 := ((hFvy30 21 (by decide)).trans ((hFvy27 21 (by decide)).trans (fn rfl (by decide))))
            have hey206 : Fvy30 23 = F 23 := ((hFvy30 23 (by decide)).trans ((hFvy27 23 (by decide)).trans (fn rfl (by decide))))
            have hey207 : Fvy30 25 = F 25 := ((hFvy30 25 (by decide)).trans ((hFvy27 25 (by decide)).trans (fn rfl (by decide))))
            have hey208 : Fvy30 27 = F 27 := ((hFvy30 27 (by decide)).trans ((hFvy27 27 (by decide)).trans (fn rfl (by decide))))
            have hey209 : Fvy30 28 = F 28 := ((hFvy30 28 (by decide)).trans ((hFvy27 28 (by decide)).trans (fn rfl (by decide))))
            have hey210 : Fvy30 29 = F 29 := ((hFvy30 29 (by decide)).trans ((hFvy27 29 (by decide)).trans (fn rfl (by decide))))
            have hKy211 : okF Fvy30 := okF.mv hM.2.1 hey197 hey198 hey199 hey200 hey201 hey202 hey203 hey204 hey205 hey206 hey207 hey208 hey209 hey210
            have hMy212 : okMr cs ad gvy30 i (x + 1) Fvy30 r st op ai fa mu tb tp := okMr.upd hM hcvy30 hKy211 (fun f a => hFy196 f (by omega)) hgy192 (hA.mono (by omega)) (fun j a b => by
                exact Or.inl (by rw [hfvy30 _ (by omega)]; rw [hfvy27 _ (by omega)]; rw [egy25, va_up_ne _ _ (by omega)]))
            have hkpy213 : Fvy30 13 = F 13 := ((hFvy30 13 (by decide)).trans ((hFvy27 13 (by decide)).trans (fn rfl (by decide))))
            have hkpy214 : Fvy30 14 = F 14 := ((hFvy30 14 (by decide)).trans ((hFvy27 14 (by decide)).trans (fn rfl (by decide))))
            have hkpy215 : Fvy30 17 = F 17 := ((hFvy30 17 (by decide)).trans ((hFvy27 17 (by decide)).trans (fn rfl (by decide))))
            have hkpy216 : Fvy30 20 = F 20 := ((hFvy30 20 (by decide)).trans ((hFvy27 20 (by decide)).trans (fn rfl (by decide))))
            have hkpy217 : Fvy30 21 = F 21 := ((hFvy30 21 (by decide)).trans ((hFvy27 21 (by decide)).trans (fn rfl (by decide))))
            have hkpy218 : Fvy30 23 = F 23 := ((hFvy30 23 (by decide)).trans ((hFvy27 23 (by decide)).trans (fn rfl (by decide))))
            have hkpy219 : Fvy30 24 = F 24 := ((hFvy30 24 (by decide)).trans ((hFvy27 24 (by decide)).trans (fn rfl (by decide))))
            exact z_iret C hr hlk dX10_slope_108 (by decide) (by decide) ⟨vy193, rfl, rfl, rfl, by omega, ⟨_, _, hMy212, ⟨hkpy213, hkpy214, hkpy215, hkpy216, hkpy217, hkpy218, hkpy219⟩⟩, fun j j1 => by rw [hfvy30 _ (by omega)]; rw [hfvy27 _ (by omega)]; rw [egy25, va_up_ne _ _ (by omega)]⟩
          · refine z_tin (off := 78) (tgt := 109) C dX10_slope_31 (by omega) (by omega) (by omega) rfl (by decide) ?_
            refine z_aload_n C 0 dX10_slope_109 rfl ?_
            refine z_iconst (z := 0) C dX10_slope_110 rfl ?_
            refine z_iload_n C 1 dX10_slope_111 rfl ?_
            refine z_iconst (z := 1) C dX10_slope_112 rfl ?_
            obtain ⟨py220, hpy220⟩ : ∃ p9 : Nat, 0 + 6 + 86 * n = p9 := ⟨_, rfl⟩
            have hgy221 := up_n egy25 ha1 (ne_o (i := i) (c := 1) (d := 0) rfl)
            have hgy222 := (hfvy27 (i + 1) (ne_o (i := i) (c := 1) (d := 0) rfl)).trans hgy221
            have hgy223 := (hfvy30 (i + 1) (ne_o (i := i) (c := 1) (d := 0) rfl)).trans hgy222
            have hqy225 : qS r py220 := (((okA.at0 hA).1.1 n (by omega)).of (p2 := py220) (by omega)).q (by have hb9 := mBb (t := r 0 + x) (by omega); omega)
            have hmky226 := hqy225.1
            refine z_cV (As := [.int (zI (0)), .int (zI ((n : Int))), .int (zI (1))]) (rest := []) (ci := 12) C (c_X10_sumA l D A cs tt N ad _ i hN _ hcvy30 _ hgy223 0 n py220 hpy220 (by omega) (by omega) hqy225 1 (by omega)) (lt_A0 hN rfl) hay1 hcvy30 rfl rfl mv_yX10_sum q_1745 hd_yX10_sum (by decide) (Nat.le_of_ble_eq_true rfl) (by decide) dX10_slope_113 rfl (kI0 fun vy224 gvy224 hvy224 => ?_)
            obtain ⟨hvy224, rfl⟩ := hvy224
            have hFy227 : ∀ f, f ≠ 12 → Fvy30 f = F f := fun f n12 => ((hFvy30 f n12).trans ((hFvy27 f n12).trans ((uZ_n _ _ n12).trans rfl)))
            have hey228 : Fvy30 13 = F 13 := ((hFvy30 13 (by decide)).trans ((hFvy27 13 (by decide)).trans (fn rfl (by decide))))
            have hey229 : Fvy30 14 = F 14 := ((hFvy30 14 (by decide)).trans ((hFvy27 14 (by decide)).trans (fn rfl (by decide))))
            have hey230 : Fvy30 15 = F 15 := ((hFvy30 15 (by decide)).trans ((hFvy27 15 (by decide)).trans (fn rfl (by decide))))
            have hey231 : Fvy30 16 = F 16 := ((hFvy30 16 (by decide)).trans ((hFvy27 16 (by decide)).trans (fn rfl (by decide))))
            have hey232 : Fvy30 17 = F 17 := ((hFvy30 17 (by decide)).trans ((hFvy27 17 (by decide)).trans (fn rfl (by decide))))
            have hey233 : Fvy30 18 = F 18 := ((hFvy30 18 (by decide)).trans ((hFvy27 18 (by decide)).trans (fn rfl (by decide))))
            have hey234 : Fvy30 19 = F 19 := ((hFvy30 19 (by decide)).trans ((hFvy27 19 (by decide)).trans (fn rfl (by decide))))
            have hey235 : Fvy30 20 = F 20 := ((hFvy30 20 (by decide)).trans ((hFvy27 20 (by decide)).trans (fn rfl (by decide))))
            have hey236 : Fvy30 21 = F 21 := ((hFvy30 21 (by decide)).trans ((hFvy27 21 (by decide)).trans (fn rfl (by decide))))
            have hey237 : Fvy30 23 = F 23 := ((hFvy30 23 (by decide)).trans ((hFvy27 23 (by decide)).trans (fn rfl (by decide))))
            have hey238 : Fvy30 25 = F 25 := ((hFvy30 25 (by decide)).trans ((hFvy27 25 (by decide)).trans (fn rfl (by decide))))
            have hey239 : Fvy30 27 = F 27 := ((hFvy30 27 (by decide)).trans ((hFvy27 27 (by decide)).trans (fn rfl (by decide))))
            have hey240 : Fvy30 28 = F 28 := ((hFvy30 28 (by decide)).trans ((hFvy27 28 (by decide)).trans (fn rfl (by decide))))
            have hey241 : Fvy30 29 = F 29 := ((hFvy30 29 (by decide)).trans ((hFvy27 29 (by decide)).trans (fn rfl (by decide))))
            have hKy242 : okF Fvy30 := okF.mv hM.2.1 hey228 hey229 hey230 hey231 hey232 hey233 hey234 hey235 hey236 hey237 hey238 hey239 hey240 hey241
            have hMy243 : okMr cs ad gvy30 i (x + 1) Fvy30 r st op ai fa mu tb tp := okMr.upd hM hcvy30 hKy242 (fun f a => hFy227 f (by omega)) hgy223 (hA.mono (by omega)) (fun j a b => by
                exact Or.inl (by rw [hfvy30 _ (by omega)]; rw [hfvy27 _ (by omega)]; rw [egy25, va_up_ne _ _ (by omega)]))
            have hkpy244 : Fvy30 13 = F 13 := ((hFvy30 13 (by decide)).trans ((hFvy27 13 (by decide)).trans (fn rfl (by decide))))
            have hkpy245 : Fvy30 14 = F 14 := ((hFvy30 14 (by decide)).trans ((hFvy27 14 (by decide)).trans (fn rfl (by decide))))
            have hkpy246 : Fvy30 17 = F 17 := ((hFvy30 17 (by decide)).trans ((hFvy27 17 (by decide)).trans (fn rfl (by decide))))
            have hkpy247 : Fvy30 20 = F 20 := ((hFvy30 20 (by decide)).trans ((hFvy27 20 (by decide)).trans (fn rfl (by decide))))
            have hkpy248 : Fvy30 21 = F 21 := ((hFvy30 21 (by decide)).trans ((hFvy27 21 (by decide)).trans (fn rfl (by decide))))
            have hkpy249 : Fvy30 23 = F 23 := ((hFvy30 23 (by decide)).trans ((hFvy27 23 (by decide)).trans (fn rfl (by decide))))
            have hkpy250 : Fvy30 24 = F 24 := ((hFvy30 24 (by decide)).trans ((hFvy27 24 (by decide)).trans (fn rfl (by decide))))
            exact z_iret C hr hlk dX10_slope_116 (by decide) (by decide) ⟨vy224, rfl, rfl, rfl, by omega, ⟨_, _, hMy243, ⟨hkpy244, hkpy245, hkpy246, hkpy247, hkpy248, hkpy249, hkpy250⟩⟩, fun j j1 => by rw [hfvy30 _ (by omega)]; rw [hfvy27 _ (by omega)]; rw [egy25, va_up_ne _ _ (by omega)]⟩
          · refine z_tin (off := 86) (tgt := 117) C dX10_slope_31 (by omega) (by omega) (by omega) rfl (by decide) ?_
            refine z_aload_n C 0 dX10_slope_117 rfl ?_
            refine z_iconst (z := 0) C dX10_slope_118 rfl ?_
            refine z_iload_n C 1 dX10_slope_119 rfl ?_
            refine z_iconst (z := 2) C dX10_slope_120 rfl ?_
            obtain ⟨py251, hpy251⟩ : ∃ p9 : Nat, 0 + 6 + 86 * n = p9 := ⟨_, rfl⟩
            have hgy252 := up_n egy25 ha1 (ne_o (i := i) (c := 1) (d := 0) rfl)
            have hgy253 := (hfvy27 (i + 1) (ne_o (i := i) (c := 1) (d := 0) rfl)).trans hgy252
            have hgy254 := (hfvy30 (i + 1) (ne_o (i := i) (c := 1) (d := 0) rfl)).trans hgy253
            have hqy256 : qS r py251 := (((okA.at0 hA).1.1 n (by omega)).of (p2 := py251) (by omega)).q (by have hb9 := mBb (t := r 0 + x) (by omega); omega)
            have hmky257 := hqy256.1
            refine z_cV (As := [.int (zI (0)), .int (zI ((n : Int))), .int (zI (2))]) (rest := []) (ci := 12) C (c_X10_sumA l D A cs tt N ad _ i hN _ hcvy30 _ hgy254 0 n py251 hpy251 (by omega) (by omega) hqy256 2 (by omega)) (lt_A0 hN rfl) hay1 hcvy30 rfl rfl mv_yX10_sum q_1745 hd_yX10_sum (by decide) (Nat.le_of_ble_eq_true rfl) (by decide) dX10_slope_121 rfl (kI0 fun vy255 gvy255 hvy255 => ?_)
            obtain ⟨hvy255, rfl⟩ := hvy255
            have hFy258 : ∀ f, f ≠ 12 → Fvy30 f = F f := fun f n12 => ((hFvy30 f n12).trans ((hFvy27 f n12).trans ((uZ_n _ _ n12).trans rfl)))
            have hey259 : Fvy30 13 = F 13 := ((hFvy30 13 (by decide)).trans ((hFvy27 13 (by decide)).trans (fn rfl (by decide))))
            have hey260 : Fvy30 14 = F 14 := ((hFvy30 14 (by decide)).trans ((hFvy27 14 (by decide)).trans (fn rfl (by decide))))
            have hey261 : Fvy30 15 = F 15 := ((hFvy30 15 (by decide)).trans ((hFvy27 15 (by decide)).trans (fn rfl (by decide))))
            have hey262 : Fvy30 16 = F 16 := ((hFvy30 16 (by decide)).trans ((hFvy27 16 (by decide)).trans (fn rfl (by decide))))
            have hey263 : Fvy30 17 = F 17 := ((hFvy30 17 (by decide)).trans ((hFvy27 17 (by decide)).trans (fn rfl (by decide))))
            have hey264 : Fvy30 18 = F 18 := ((hFvy30 18 (by decide)).trans ((hFvy27 18 (by decide)).trans (fn rfl (by decide))))
            have hey265 : Fvy30 19 = F 19 := ((hFvy30 19 (by decide)).trans ((hFvy27 19 (by decide)).trans (fn rfl (by decide))))
            have hey266 : Fvy30 20 = F 20 := ((hFvy30 20 (by decide)).trans ((hFvy27 20 (by decide)).trans (fn rfl (by decide))))
            have hey267 : Fvy30 21 = F 21 := ((hFvy30 21 (by decide)).trans ((hFvy27 21 (by decide)).trans (fn rfl (by decide))))
            have hey268 : Fvy30 23 = F 23 := ((hFvy30 23 (by decide)).trans ((hFvy27 23 (by decide)).trans (fn rfl (by decide))))
            have hey269 : Fvy30 25 = F 25 := ((hFvy30 25 (by decide)).trans ((hFvy27 25 (by decide)).trans (fn rfl (by decide))))
            have hey270 : Fvy30 27 = F 27 := ((hFvy30 27 (by decide)).trans ((hFvy27 27 (by decide)).trans (fn rfl (by decide))))
            have hey271 : Fvy30 28 = F 28 := ((hFvy30 28 (by decide)).trans ((hFvy27 28 (by decide)).trans (fn rfl (by decide))))
            have hey272 : Fvy30 29 = F 29 := ((hFvy30 29 (by decide)).trans ((hFvy27 29 (by decide)).trans (fn rfl (by decide))))
            have hKy273 : okF Fvy30 := okF.mv hM.2.1 hey259 hey260 hey261 hey262 hey263 hey264 hey265 hey266 hey267 hey268 hey269 hey270 hey271 hey272
            have hMy274 : okMr cs ad gvy30 i (x + 1) Fvy30 r st op ai fa mu tb tp := okMr.upd hM hcvy30 hKy273 (fun f a => hFy258 f (by omega)) hgy254 (hA.mono (by omega)) (fun j a b => by
                exact Or.inl (by rw [hfvy30 _ (by omega)]; rw [hfvy27 _ (by omega)]; rw [egy25, va_up_ne _ _ (by omega)]))
            have hkpy275 : Fvy30 13 = F 13 := ((hFvy30 13 (by decide)).trans ((hFvy27 13 (by decide)).trans (fn rfl (by decide))))
            have hkpy276 : Fvy30 14 = F 14 := ((hFvy30 14 (by decide)).trans ((hFvy27 14 (by decide)).trans (fn rfl (by decide))))
            have hkpy277 : Fvy30 17 = F 17 := ((hFvy30 17 (by decide)).trans ((hFvy27 17 (by decide)).trans (fn rfl (by decide))))
            have hkpy278 : Fvy30 20 = F 20 := ((hFvy30 20 (by decide)).trans ((hFvy27 20 (by decide)).trans (fn rfl (by decide))))
            have hkpy279 : Fvy30 21 = F 21 := ((hFvy30 21 (by decide)).trans ((hFvy27 21 (by decide)).trans (fn rfl (by decide))))
            have hkpy280 : Fvy30 23 = F 23 := ((hFvy30 23 (by decide)).trans ((hFvy27 23 (by decide)).trans (fn rfl (by decide))))
            have hkpy281 : Fvy30 24 = F 24 := ((hFvy30 24 (by decide)).trans ((hFvy27 24 (by decide)).trans (fn rfl (by decide))))
            exact z_iret C hr hlk dX10_slope_124 (by decide) (by decide) ⟨vy255, rfl, rfl, rfl, by omega, ⟨_, _, hMy274, ⟨hkpy275, hkpy276, hkpy277, hkpy278, hkpy279, hkpy280, hkpy281⟩⟩, fun j j1 => by rw [hfvy30 _ (by omega)]; rw [hfvy27 _ (by omega)]; rw [egy25, va_up_ne _ _ (by omega)]⟩
          · refine z_tin (off := 94) (tgt := 125) C dX10_slope_31 (by omega) (by omega) (by omega) rfl (by decide) ?_
            refine z_aload_n C 0 dX10_slope_125 rfl ?_
            refine z_get (v := .ref (ad (i + 1))) C (lt_A0 hN rfl) hay1 hcvy30 rfl inA_X10 0 (by decide) q_1459 rfl rfl dX10_slope_126 ?_
            refine z_bipush (z := 6) C dX10_slope_129 (by decide) ?_
            refine z_bipush (z := 86) C dX10_slope_131 (by decide) ?_
            refine z_iload_n C 1 dX10_slope_133 rfl ?_
            refine z_imul C dX10_slope_134 ?_
            refine z_iadd C dX10_slope_135 ?_
            refine z_iconst (z := 1) C dX10_slope_136 rfl ?_
            refine z_iadd C dX10_slope_137 ?_
            have hgy282 := up_n egy25 ha1 (ne_o (i := i) (c := 1) (d := 0) rfl)
            have hgy283 := (hfvy27 (i + 1) (ne_o (i := i) (c := 1) (d := 0) rfl)).trans hgy282
            have hgy284 := (hfvy30 (i + 1) (ne_o (i := i) (c := 1) (d := 0) rfl)).trans hgy283
            refine z_iald C (lt_A (c := 1) hN rfl) hay2 hgy284 (((6 + (86 * (n : Int))) + 1).toNat) (by omega) (by omega) (by decide) dX10_slope_138 ?_
            obtain ⟨xy285, exy286, hxy287⟩ := zI_of (zI (r (((6 + (86 * (n : Int))) + 1).toNat)))
            rw [exy286]
            have hFy288 : ∀ f, f ≠ 12 → Fvy30 f = F f := fun f n12 => ((hFvy30 f n12).trans ((hFvy27 f n12).trans ((uZ_n _ _ n12).trans rfl)))
            have hey289 : Fvy30 13 = F 13 := ((hFvy30 13 (by decide)).trans ((hFvy27 13 (by decide)).trans (fn rfl (by decide))))
            have hey290 : Fvy30 14 = F 14 := ((hFvy30 14 (by decide)).trans ((hFvy27 14 (by decide)).trans (fn rfl (by decide))))
            have hey291 : Fvy30 15 = F 15 := ((hFvy30 15 (by decide)).trans ((hFvy27 15 (by decide)).trans (fn rfl (by decide))))
            have hey292 : Fvy30 16 = F 16 := ((hFvy30 16 (by decide)).trans ((hFvy27 16 (by decide)).trans (fn rfl (by decide))))
            have hey293 : Fvy30 17 = F 17 := ((hFvy30 17 (by decide)).trans ((hFvy27 17 (by decide)).trans (fn rfl (by decide))))
            have hey294 : Fvy30 18 = F 18 := ((hFvy30 18 (by decide)).trans ((hFvy27 18 (by decide)).trans (fn rfl (by decide))))
            have hey295 : Fvy30 19 = F 19 := ((hFvy30 19 (by decide)).trans ((hFvy27 19 (by decide)).trans (fn rfl (by decide))))
            have hey296 : Fvy30 20 = F 20 := ((hFvy30 20 (by decide)).trans ((hFvy27 20 (by decide)).trans (fn rfl (by decide))))
            have hey297 : Fvy30 21 = F 21 := ((hFvy30 21 (by decide)).trans ((hFvy27 21 (by decide)).trans (fn rfl (by decide))))
            have hey298 : Fvy30 23 = F 23 := ((hFvy30 23 (by decide)).trans ((hFvy27 23 (by decide)).trans (fn rfl (by decide))))
            have hey299 : Fvy30 25 = F 25 := ((hFvy30 25 (by decide)).trans ((hFvy27 25 (by decide)).trans (fn rfl (by decide))))
            have hey300 : Fvy30 27 = F 27 := ((hFvy30 27 (by decide)).trans ((hFvy27 27 (by decide)).trans (fn rfl (by decide))))
            have hey301 : Fvy30 28 = F 28 := ((hFvy30 28 (by decide)).trans ((hFvy27 28 (by decide)).trans (fn rfl (by decide))))
            have hey302 : Fvy30 29 = F 29 := ((hFvy30 29 (by decide)).trans ((hFvy27 29 (by decide)).trans (fn rfl (by decide))))
            have hKy303 : okF Fvy30 := okF.mv hM.2.1 hey289 hey290 hey291 hey292 hey293 hey294 hey295 hey296 hey297 hey298 hey299 hey300 hey301 hey302
            have hMy304 : okMr cs ad gvy30 i (x + 1) Fvy30 r st op ai fa mu tb tp := okMr.upd hM hcvy30 hKy303 (fun f a => hFy288 f (by omega)) hgy284 (hA.mono (by omega)) (fun j a b => by
                exact Or.inl (by rw [hfvy30 _ (by omega)]; rw [hfvy27 _ (by omega)]; rw [egy25, va_up_ne _ _ (by omega)]))
            have hkpy305 : Fvy30 13 = F 13 := ((hFvy30 13 (by decide)).trans ((hFvy27 13 (by decide)).trans (fn rfl (by decide))))
            have hkpy306 : Fvy30 14 = F 14 := ((hFvy30 14 (by decide)).trans ((hFvy27 14 (by decide)).trans (fn rfl (by decide))))
            have hkpy307 : Fvy30 17 = F 17 := ((hFvy30 17 (by decide)).trans ((hFvy27 17 (by decide)).trans (fn rfl (by decide))))
            have hkpy308 : Fvy30 20 = F 20 := ((hFvy30 20 (by decide)).trans ((hFvy27 20 (by decide)).trans (fn rfl (by decide))))
            have hkpy309 : Fvy30 21 = F 21 := ((hFvy30 21 (by decide)).trans ((hFvy27 21 (by decide)).trans (fn rfl (by decide))))
            have hkpy310 : Fvy30 23 = F 23 := ((hFvy30 23 (by decide)).trans ((hFvy27 23 (by decide)).trans (fn rfl (by decide))))
            have hkpy311 : Fvy30 24 = F 24 := ((hFvy30 24 (by decide)).trans ((hFvy27 24 (by decide)).trans (fn rfl (by decide))))
            exact z_iret C hr hlk dX10_slope_139 (by decide) (by decide) ⟨xy285, rfl, rfl, rfl, by omega, ⟨_, _, hMy304, ⟨hkpy305, hkpy306, hkpy307, hkpy308, hkpy309, hkpy310, hkpy311⟩⟩, fun j j1 => by rw [hfvy30 _ (by omega)]; rw [hfvy27 _ (by omega)]; rw [egy25, va_up_ne _ _ (by omega)]⟩
          · refine z_tin (off := 109) (tgt := 140) C dX10_slope_31 (by omega) (by omega) (by omega) rfl (by decide) ?_
            refine z_aload_n C 0 dX10_slope_140 rfl ?_
            refine z_iconst (z := 0) C dX10_slope_141 rfl ?_
            refine z_iload_n C 1 dX10_slope_142 rfl ?_
            obtain ⟨py312, hpy312⟩ : ∃ p9 : Nat, 0 + 6 + 86 * n = p9 := ⟨_, rfl⟩
            have hgy313 := up_n egy25 ha1 (ne_o (i := i) (c := 1) (d := 0) rfl)
            have hgy314 := (hfvy27 (i + 1) (ne_o (i := i) (c := 1) (d := 0) rfl)).trans hgy313
            have hgy315 := (hfvy30 (i + 1) (ne_o (i := i) (c := 1) (d := 0) rfl)).trans hgy314
            have hgy317 := up_n egy25 ha2 (ne_o (i := i) (c := 2) (d := 0) rfl)
            have hgy318 := (hfvy27 (i + 2) (ne_o (i := i) (c := 2) (d := 0) rfl)).trans hgy317
            have hgy319 := (hfvy30 (i + 2) (ne_o (i := i) (c := 2) (d := 0) rfl)).trans hgy318
            have hgy320 := up_n egy25 ha7 (ne_o (i := i) (c := 7) (d := 0) rfl)
            have hgy321 := (hfvy27 (i + 7) (ne_o (i := i) (c := 7) (d := 0) rfl)).trans hgy320
            have hgy322 := (hfvy30 (i + 7) (ne_o (i := i) (c := 7) (d := 0) rfl)).trans hgy321
            have hqy323 : qS r py312 := (((okA.at0 hA).1.1 n (by omega)).of (p2 := py312) (by omega)).q (by have hb9 := mBb (t := r 0 + x) (by omega); omega)
            have hmky324 := hqy323.1
            refine z_cV (As := [.int (zI (0)), .int (zI ((n : Int)))]) (rest := []) (ci := 12) C (c_X10_weakest l D A cs tt N ad _ i hN _ hcvy30 _ hgy315 _ hgy319 _ hgy322 0 n py312 hpy312 (by omega) (by omega) hqy323) (lt_A0 hN rfl) hay1 hcvy30 rfl rfl mv_yX10_weakest q_1807 hd_yX10_weakest (by decide) (Nat.le_of_ble_eq_true rfl) (by decide) dX10_slope_143 rfl (kI0 fun vy316 gvy316 hvy316 => ?_)
            obtain ⟨hvy316, rfl⟩ := hvy316
            have hFy325 : ∀ f, f ≠ 12 → Fvy30 f = F f := fun f n12 => ((hFvy30 f n12).trans ((hFvy27 f n12).trans ((uZ_n _ _ n12).trans rfl)))
            have hey326 : Fvy30 13 = F 13 := ((hFvy30 13 (by decide)).trans ((hFvy27 13 (by decide)).trans (fn rfl (by decide))))
            have hey327 : Fvy30 14 = F 14 := ((hFvy30 14 (by decide)).trans ((hFvy27 14 (by decide)).trans (fn rfl (by decide))))
            have hey328 : Fvy30 15 = F 15 := ((hFvy30 15 (by decide)).trans ((hFvy27 15 (by decide)).trans (fn rfl (by decide))))
            have hey329 : Fvy30 16 = F 16 := ((hFvy30 16 (by decide)).trans ((hFvy27 16 (by decide)).trans (fn rfl (by decide))))
            have hey330 : Fvy30 17 = F 17 := ((hFvy30 17 (by decide)).trans ((hFvy27 17 (by decide)).trans (fn rfl (by decide))))
            have hey331 : Fvy30 18 = F 18 := ((hFvy30 18 (by decide)).trans ((hFvy27 18 (by decide)).trans (fn rfl (by decide))))
            have hey332 : Fvy30 19 = F 19 := ((hFvy30 19 (by decide)).trans ((hFvy27 19 (by decide)).trans (fn rfl (by decide))))
            have hey333 : Fvy30 20 = F 20 := ((hFvy30 20 (by decide)).trans ((hFvy27 20 (by decide)).trans (fn rfl (by decide))))
            have hey334 : Fvy30 21 = F 21 := ((hFvy30 21 (by decide)).trans ((hFvy27 21 (by decide)).trans (fn rfl (by decide))))
            have hey335 : Fvy30 23 = F 23 := ((hFvy30 23 (by decide)).trans ((hFvy27 23 (by decide)).trans (fn rfl (by decide))))
            have hey336 : Fvy30 25 = F 25 := ((hFvy30 25 (by decide)).trans ((hFvy27 25 (by decide)).trans (fn rfl (by decide))))
            have hey337 : Fvy30 27 = F 27 := ((hFvy30 27 (by decide)).trans ((hFvy27 27 (by decide)).trans (fn rfl (by decide))))
            have hey338 : Fvy30 28 = F 28 := ((hFvy30 28 (by decide)).trans ((hFvy27 28 (by decide)).trans (fn rfl (by decide))))
            have hey339 : Fvy30 29 = F 29 := ((hFvy30 29 (by decide)).trans ((hFvy27 29 (by decide)).trans (fn rfl (by decide))))
            have hKy340 : okF Fvy30 := okF.mv hM.2.1 hey326 hey327 hey328 hey329 hey330 hey331 hey332 hey333 hey334 hey335 hey336 hey337 hey338 hey339
            have hMy341 : okMr cs ad gvy30 i (x + 1) Fvy30 r st op ai fa mu tb tp := okMr.upd hM hcvy30 hKy340 (fun f a => hFy325 f (by omega)) hgy315 (hA.mono (by omega)) (fun j a b => by
                exact Or.inl (by rw [hfvy30 _ (by omega)]; rw [hfvy27 _ (by omega)]; rw [egy25, va_up_ne _ _ (by omega)]))
            have hkpy342 : Fvy30 13 = F 13 := ((hFvy30 13 (by decide)).trans ((hFvy27 13 (by decide)).trans (fn rfl (by decide))))
            have hkpy343 : Fvy30 14 = F 14 := ((hFvy30 14 (by decide)).trans ((hFvy27 14 (by decide)).trans (fn rfl (by decide))))
            have hkpy344 : Fvy30 17 = F 17 := ((hFvy30 17 (by decide)).trans ((hFvy27 17 (by decide)).trans (fn rfl (by decide))))
            have hkpy345 : Fvy30 20 = F 20 := ((hFvy30 20 (by decide)).trans ((hFvy27 20 (by decide)).trans (fn rfl (by decide))))
            have hkpy346 : Fvy30 21 = F 21 := ((hFvy30 21 (by decide)).trans ((hFvy27 21 (by decide)).trans (fn rfl (by decide))))
            have hkpy347 : Fvy30 23 = F 23 := ((hFvy30 23 (by decide)).trans ((hFvy27 23 (by decide)).trans (fn rfl (by decide))))
            have hkpy348 : Fvy30 24 = F 24 := ((hFvy30 24 (by decide)).trans ((hFvy27 24 (by decide)).trans (fn rfl (by decide))))
            exact z_iret C hr hlk dX10_slope_146 (by decide) (by decide) ⟨vy316, rfl, rfl, rfl, by omega, ⟨_, _, hMy341, ⟨hkpy342, hkpy343, hkpy344, hkpy345, hkpy346, hkpy347, hkpy348⟩⟩, fun j j1 => by rw [hfvy30 _ (by omega)]; rw [hfvy27 _ (by omega)]; rw [egy25, va_up_ne _ _ (by omega)]⟩
          · refine z_tin (off := 116) (tgt := 147) C dX10_slope_31 (by omega) (by omega) (by omega) rfl (by decide) ?_
            refine z_aload_n C 0 dX10_slope_147 rfl ?_
            refine z_iconst (z := 0) C dX10_slope_148 rfl ?_
            refine z_iload_n C 1 dX10_slope_149 rfl ?_
            obtain ⟨py349, hpy349⟩ : ∃ p9 : Nat, 0 + 6 + 86 * n = p9 := ⟨_, rfl⟩
            have hgy350 := up_n egy25 ha1 (ne_o (i := i) (c := 1) (d := 0) rfl)
            have hgy351 := (hfvy27 (i + 1) (ne_o (i := i) (c := 1) (d := 0) rfl)).trans hgy350
            have hgy352 := (hfvy30 (i + 1) (ne_o (i := i) (c := 1) (d := 0) rfl)).trans hgy351
            have hgy354 := up_n egy25 ha2 (ne_o (i := i) (c := 2) (d := 0) rfl)
            have hgy355 := (hfvy27 (i + 2) (ne_o (i := i) (c := 2) (d := 0) rfl)).trans hgy354
            have hgy356 := (hfvy30 (i + 2) (ne_o (i := i) (c := 2) (d := 0) rfl)).trans hgy355
            have hgy357 := up_n egy25 ha7 (ne_o (i := i) (c := 7) (d := 0) rfl)
            have hgy358 := (hfvy27 (i + 7) (ne_o (i := i) (c := 7) (d := 0) rfl)).trans hgy357
            have hgy359 := (hfvy30 (i + 7) (ne_o (i := i) (c := 7) (d := 0) rfl)).trans hgy358
            have hqy360 : qS r py349 := (((okA.at0 hA).1.1 n (by omega)).of (p2 := py349) (by omega)).q (by have hb9 := mBb (t := r 0 + x) (by omega); omega)
            have hmky361 := hqy360.1
            refine z_cV (As := [.int (zI (0)), .int (zI ((n : Int)))]) (rest := []) (ci := 12) C (c_X10_leastRatio l D A cs tt N ad _ i hN _ hcvy30 _ hgy352 _ hgy356 _ hgy359 0 n py349 hpy349 (by omega) (by omega) hqy360) (lt_A0 hN rfl) hay1 hcvy30 rfl rfl mv_yX10_leastRatio q_1760 hd_yX10_leastRatio (by decide) (Nat.le_of_ble_eq_true rfl) (by decide) dX10_slope_150 rfl (kI0 fun vy353 gvy353 hvy353 => ?_)
            obtain ⟨hvy353, rfl⟩ := hvy353
            have hFy362 : ∀ f, f ≠ 12 → Fvy30 f = F f := fun f n12 => ((hFvy30 f n12).trans ((hFvy27 f n12).trans ((uZ_n _ _ n12).trans rfl)))
            have hey363 : Fvy30 13 = F 13 := ((hFvy30 13 (by decide)).trans ((hFvy27 13 (by decide)).trans (fn rfl (by decide))))
            have hey364 : Fvy30 14 = F 14 := ((hFvy30 14 (by decide)).trans ((hFvy27 14 (by decide)).trans (fn rfl (by decide))))
            have hey365 : Fvy30 15 = F 15 := ((hFvy30 15 (by decide)).trans ((hFvy27 15 (by decide)).trans (fn rfl (by decide))))
            have hey366 : Fvy30 16 = F 16 := ((hFvy30 16 (by decide)).trans ((hFvy27 16 (by decide)).trans (fn rfl (by decide))))
            have hey367 : Fvy30 17 = F 17 := ((hFvy30 17 (by decide)).trans ((hFvy27 17 (by decide)).trans (fn rfl (by decide))))
            have hey368 : Fvy30 18 = F 18 := ((hFvy30 18 (by decide)).trans ((hFvy27 18 (by decide)).trans (fn rfl (by decide))))
            have hey369 : Fvy30 19 = F 19 := ((hFvy30 19 (by decide)).trans ((hFvy27 19 (by decide)).trans (fn rfl (by decide))))
            have hey370 : Fvy30 20 = F 20 := ((hFvy30 20 (by decide)).trans ((hFvy27 20 (by decide)).trans (fn rfl (by decide))))
            have hey371 : Fvy30 21 = F 21 := ((hFvy30 21 (by decide)).trans ((hFvy27 21 (by decide)).trans (fn rfl (by decide))))
            have hey372 : Fvy30 23 = F 23 := ((hFvy30 23 (by decide)).trans ((hFvy27 23 (by decide)).trans (fn rfl (by decide))))
            have hey373 : Fvy30 25 = F 25 := ((hFvy30 25 (by decide)).trans ((hFvy27 25 (by decide)).trans (fn rfl (by decide))))
            have hey374 : Fvy30 27 = F 27 := ((hFvy30 27 (by decide)).trans ((hFvy27 27 (by decide)).trans (fn rfl (by decide))))
            have hey375 : Fvy30 28 = F 28 := ((hFvy30 28 (by decide)).trans ((hFvy27 28 (by decide)).trans (fn rfl (by decide))))
            have hey376 : Fvy30 29 = F 29 := ((hFvy30 29 (by decide)).trans ((hFvy27 29 (by decide)).trans (fn rfl (by decide))))
            have hKy377 : okF Fvy30 := okF.mv hM.2.1 hey363 hey364 hey365 hey366 hey367 hey368 hey369 hey370 hey371 hey372 hey373 hey374 hey375 hey376
            have hMy378 : okMr cs ad gvy30 i (x + 1) Fvy30 r st op ai fa mu tb tp := okMr.upd hM hcvy30 hKy377 (fun f a => hFy362 f (by omega)) hgy352 (hA.mono (by omega)) (fun j a b => by
                exact Or.inl (by rw [hfvy30 _ (by omega)]; rw [hfvy27 _ (by omega)]; rw [egy25, va_up_ne _ _ (by omega)]))
            have hkpy379 : Fvy30 13 = F 13 := ((hFvy30 13 (by decide)).trans ((hFvy27 13 (by decide)).trans (fn rfl (by decide))))
            have hkpy380 : Fvy30 14 = F 14 := ((hFvy30 14 (by decide)).trans ((hFvy27 14 (by decide)).trans (fn rfl (by decide))))
            have hkpy381 : Fvy30 17 = F 17 := ((hFvy30 17 (by decide)).trans ((hFvy27 17 (by decide)).trans (fn rfl (by decide))))
            have hkpy382 : Fvy30 20 = F 20 := ((hFvy30 20 (by decide)).trans ((hFvy27 20 (by decide)).trans (fn rfl (by decide))))
            have hkpy383 : Fvy30 21 = F 21 := ((hFvy30 21 (by decide)).trans ((hFvy27 21 (by decide)).trans (fn rfl (by decide))))
            have hkpy384 : Fvy30 23 = F 23 := ((hFvy30 23 (by decide)).trans ((hFvy27 23 (by decide)).trans (fn rfl (by decide))))
            have hkpy385 : Fvy30 24 = F 24 := ((hFvy30 24 (by decide)).trans ((hFvy27 24 (by decide)).trans (fn rfl (by decide))))
            exact z_iret C hr hlk dX10_slope_153 (by decide) (by decide) ⟨vy353, rfl, rfl, rfl, by omega, ⟨_, _, hMy378, ⟨hkpy379, hkpy380, hkpy381, hkpy382, hkpy383, hkpy384, hkpy385⟩⟩, fun j j1 => by rw [hfvy30 _ (by omega)]; rw [hfvy27 _ (by omega)]; rw [egy25, va_up_ne _ _ (by omega)]⟩
      · refine z_if_ne (tgt := 30) C dX10_slope_25 (by decide) (by omega) (fun h => absurd h (by omega)) (fun _ => ?_)
        refine z_iconst (z := 0) C dX10_slope_28 rfl ?_
        have hgy386 := up_n egy25 ha1 (ne_o (i := i) (c := 1) (d := 0) rfl)
        have hgy387 := (hfvy27 (i + 1) (ne_o (i := i) (c := 1) (d := 0) rfl)).trans hgy386
        have hgy388 := (hfvy30 (i + 1) (ne_o (i := i) (c := 1) (d := 0) rfl)).trans hgy387
        have hFy389 : ∀ f, f ≠ 12 → Fvy30 f = F f := fun f n12 => ((hFvy30 f n12).trans ((hFvy27 f n12).trans ((uZ_n _ _ n12).trans rfl)))
        have hey390 : Fvy30 13 = F 13 := ((hFvy30 13 (by decide)).trans ((hFvy27 13 (by decide)).trans (fn rfl (by decide))))
        have hey391 : Fvy30 14 = F 14 := ((hFvy30 14 (by decide)).trans ((hFvy27 14 (by decide)).trans (fn rfl (by decide))))
        have hey392 : Fvy30 15 = F 15 := ((hFvy30 15 (by decide)).trans ((hFvy27 15 (by decide)).trans (fn rfl (by decide))))
        have hey393 : Fvy30 16 = F 16 := ((hFvy30 16 (by decide)).trans ((hFvy27 16 (by decide)).trans (fn rfl (by decide))))
        have hey394 : Fvy30 17 = F 17 := ((hFvy30 17 (by decide)).trans ((hFvy27 17 (by decide)).trans (fn rfl (by decide))))
        have hey395 : Fvy30 18 = F 18 := ((hFvy30 18 (by decide)).trans ((hFvy27 18 (by decide)).trans (fn rfl (by decide))))
        have hey396 : Fvy30 19 = F 19 := ((hFvy30 19 (by decide)).trans ((hFvy27 19 (by decide)).trans (fn rfl (by decide))))
        have hey397 : Fvy30 20 = F 20 := ((hFvy30 20 (by decide)).trans ((hFvy27 20 (by decide)).trans (fn rfl (by decide))))
        have hey398 : Fvy30 21 = F 21 := ((hFvy30 21 (by decide)).trans ((hFvy27 21 (by decide)).trans (fn rfl (by decide))))
        have hey399 : Fvy30 23 = F 23 := ((hFvy30 23 (by decide)).trans ((hFvy27 23 (by decide)).trans (fn rfl (by decide))))
        have hey400 : Fvy30 25 = F 25 := ((hFvy30 25 (by decide)).trans ((hFvy27 25 (by decide)).trans (fn rfl (by decide))))
        have hey401 : Fvy30 27 = F 27 := ((hFvy30 27 (by decide)).trans ((hFvy27 27 (by decide)).trans (fn rfl (by decide))))
        have hey402 : Fvy30 28 = F 28 := ((hFvy30 28 (by decide)).trans ((hFvy27 28 (by decide)).trans (fn rfl (by decide))))
        have hey403 : Fvy30 29 = F 29 := ((hFvy30 29 (by decide)).trans ((hFvy27 29 (by decide)).trans (fn rfl (by decide))))
        have hKy404 : okF Fvy30 := okF.mv hM.2.1 hey390 hey391 hey392 hey393 hey394 hey395 hey396 hey397 hey398 hey399 hey400 hey401 hey402 hey403
        have hMy405 : okMr cs ad gvy30 i (x + 1) Fvy30 r st op ai fa mu tb tp := okMr.upd hM hcvy30 hKy404 (fun f a => hFy389 f (by omega)) hgy388 (hA.mono (by omega)) (fun j a b => by
            exact Or.inl (by rw [hfvy30 _ (by omega)]; rw [hfvy27 _ (by omega)]; rw [egy25, va_up_ne _ _ (by omega)]))
        have hkpy406 : Fvy30 13 = F 13 := ((hFvy30 13 (by decide)).trans ((hFvy27 13 (by decide)).trans (fn rfl (by decide))))
        have hkpy407 : Fvy30 14 = F 14 := ((hFvy30 14 (by decide)).trans ((hFvy27 14 (by decide)).trans (fn rfl (by decide))))
        have hkpy408 : Fvy30 17 = F 17 := ((hFvy30 17 (by decide)).trans ((hFvy27 17 (by decide)).trans (fn rfl (by decide))))
        have hkpy409 : Fvy30 20 = F 20 := ((hFvy30 20 (by decide)).trans ((hFvy27 20 (by decide)).trans (fn rfl (by decide))))
        have hkpy410 : Fvy30 21 = F 21 := ((hFvy30 21 (by decide)).trans ((hFvy27 21 (by decide)).trans (fn rfl (by decide))))
        have hkpy411 : Fvy30 23 = F 23 := ((hFvy30 23 (by decide)).trans ((hFvy27 23 (by decide)).trans (fn rfl (by decide))))
        have hkpy412 : Fvy30 24 = F 24 := ((hFvy30 24 (by decide)).trans ((hFvy27 24 (by decide)).trans (fn rfl (by decide))))
        exact z_iret C hr hlk dX10_slope_29 (by decide) (by decide) ⟨0, rfl, rfl, rfl, by omega, ⟨_, _, hMy405, ⟨hkpy406, hkpy407, hkpy408, hkpy409, hkpy410, hkpy411, hkpy412⟩⟩, fun j j1 => by rw [hfvy30 _ (by omega)]; rw [hfvy27 _ (by omega)]; rw [egy25, va_up_ne _ _ (by omega)]⟩
    · refine z_iconst (z := 1) C dX10_slope_21 rfl ?_
      have hey414 : Fvy27 12 = Fvy27 12 := rfl
      refine z_cV (As := [.int (zI (0)), .int (zI (1))]) (rest := []) (ci := 12) C (c_X10_right l D A cs tt N ad _ i hN _ hcvy27 (by omega) (0) (by omega) (1) (by omega)) (lt_A0 hN rfl) hay1 hcvy27 rfl rfl mv_yX10_right q_1648 hd_yX10_right (by decide) (Nat.le_of_ble_eq_true rfl) (by decide) dX10_slope_22 rfl (kI0 fun vy413 gvy413 hvy413 => ?_)
      obtain ⟨hrvy413, ⟨Fvy413, hcvy413, htvy413, hFvy413⟩, hfvy413⟩ := hvy413
      obtain rfl : vy413 = 0 := by omega
      refine z_if_ne (tgt := 30) C dX10_slope_25 (by decide) (by omega) (fun h => absurd h (by omega)) (fun _ => ?_)
      refine z_iconst (z := 0) C dX10_slope_28 rfl ?_
      have hgy415 := up_n egy25 ha1 (ne_o (i := i) (c := 1) (d := 0) rfl)
      have hgy416 := (hfvy27 (i + 1) (ne_o (i := i) (c := 1) (d := 0) rfl)).trans hgy415
      have hgy417 := (hfvy413 (i + 1) (ne_o (i := i) (c := 1) (d := 0) rfl)).trans hgy416
      have hFy418 : ∀ f, f ≠ 12 → Fvy413 f = F f := fun f n12 => ((hFvy413 f n12).trans ((hFvy27 f n12).trans ((uZ_n _ _ n12).trans rfl)))
      have hey419 : Fvy413 13 = F 13 := ((hFvy413 13 (by decide)).trans ((hFvy27 13 (by decide)).trans (fn rfl (by decide))))
      have hey420 : Fvy413 14 = F 14 := ((hFvy413 14 (by decide)).trans ((hFvy27 14 (by decide)).trans (fn rfl (by decide))))
      have hey421 : Fvy413 15 = F 15 := ((hFvy413 15 (by decide)).trans ((hFvy27 15 (by decide)).trans (fn rfl (by decide))))
      have hey422 : Fvy413 16 = F 16 := ((hFvy413 16 (by decide)).trans ((hFvy27 16 (by decide)).trans (fn rfl (by decide))))
      have hey423 : Fvy413 17 = F 17 := ((hFvy413 17 (by decide)).trans ((hFvy27 17 (by decide)).trans (fn rfl (by decide))))
      have hey424 : Fvy413 18 = F 18 := ((hFvy413 18 (by decide)).trans ((hFvy27 18 (by decide)).trans (fn rfl (by decide))))
      have hey425 : Fvy413 19 = F 19 := ((hFvy413 19 (by decide)).trans ((hFvy27 19 (by decide)).trans (fn rfl (by decide))))
      have hey426 : Fvy413 20 = F 20 := ((hFvy413 20 (by decide)).trans ((hFvy27 20 (by decide)).trans (fn rfl (by decide))))
      have hey427 : Fvy413 21 = F 21 := ((hFvy413 21 (by decide)).trans ((hFvy27 21 (by decide)).trans (fn rfl (by decide))))
      have hey428 : Fvy413 23 = F 23 := ((hFvy413 23 (by decide)).trans ((hFvy27 23 (by decide)).trans (fn rfl (by decide))))
      have hey429 : Fvy413 25 = F 25 := ((hFvy413 25 (by decide)).trans ((hFvy27 25 (by decide)).trans (fn rfl (by decide))))
      have hey430 : Fvy413 27 = F 27 := ((hFvy413 27 (by decide)).trans ((hFvy27 27 (by decide)).trans (fn rfl (by decide))))
      have hey431 : Fvy413 28 = F 28 := ((hFvy413 28 (by decide)).trans ((hFvy27 28 (by decide)).trans (fn rfl (by decide))))
      have hey432 : Fvy413 29 = F 29 := ((hFvy413 29 (by decide)).trans ((hFvy27 29 (by decide)).trans (fn rfl (by decide))))
      have hKy433 : okF Fvy413 := okF.mv hM.2.1 hey419 hey420 hey421 hey422 hey423 hey424 hey425 hey426 hey427 hey428 hey429 hey430 hey431 hey432
      have hMy434 : okMr cs ad gvy413 i (x + 1) Fvy413 r st op ai fa mu tb tp := okMr.upd hM hcvy413 hKy433 (fun f a => hFy418 f (by omega)) hgy417 (hA.mono (by omega)) (fun j a b => by
          exact Or.inl (by rw [hfvy413 _ (by omega)]; rw [hfvy27 _ (by omega)]; rw [egy25, va_up_ne _ _ (by omega)]))
      have hkpy435 : Fvy413 13 = F 13 := ((hFvy413 13 (by decide)).trans ((hFvy27 13 (by decide)).trans (fn rfl (by decide))))
      have hkpy436 : Fvy413 14 = F 14 := ((hFvy413 14 (by decide)).trans ((hFvy27 14 (by decide)).trans (fn rfl (by decide))))
      have hkpy437 : Fvy413 17 = F 17 := ((hFvy413 17 (by decide)).trans ((hFvy27 17 (by decide)).trans (fn rfl (by decide))))
      have hkpy438 : Fvy413 20 = F 20 := ((hFvy413 20 (by decide)).trans ((hFvy27 20 (by decide)).trans (fn rfl (by decide))))
      have hkpy439 : Fvy413 21 = F 21 := ((hFvy413 21 (by decide)).trans ((hFvy27 21 (by decide)).trans (fn rfl (by decide))))
      have hkpy440 : Fvy413 23 = F 23 := ((hFvy413 23 (by decide)).trans ((hFvy27 23 (by decide)).trans (fn rfl (by decide))))
      have hkpy441 : Fvy413 24 = F 24 := ((hFvy413 24 (by decide)).trans ((hFvy27 24 (by decide)).trans (fn rfl (by decide))))
      exact z_iret C hr hlk dX10_slope_29 (by decide) (by decide) ⟨0, rfl, rfl, rfl, by omega, ⟨_, _, hMy434, ⟨hkpy435, hkpy436, hkpy437, hkpy438, hkpy439, hkpy440, hkpy441⟩⟩, fun j j1 => by rw [hfvy413 _ (by omega)]; rw [hfvy27 _ (by omega)]; rw [egy25, va_up_ne _ _ (by omega)]⟩
  · refine z_if_eq (tgt := 28) C dX10_slope_10 (by decide) (by omega) (fun _ => ?_) (fun h => absurd h (by omega))
    refine z_iconst (z := 0) C dX10_slope_28 rfl ?_
    have hgy442 := up_n egy25 ha1 (ne_o (i := i) (c := 1) (d := 0) rfl)
    have hgy443 := (hfvy27 (i + 1) (ne_o (i := i) (c := 1) (d := 0) rfl)).trans hgy442
    have hFy444 : ∀ f, f ≠ 12 → Fvy27 f = F f := fun f n12 => ((hFvy27 f n12).trans ((uZ_n _ _ n12).trans rfl))
    have hey445 : Fvy27 13 = F 13 := ((hFvy27 13 (by decide)).trans (fn rfl (by decide)))
    have hey446 : Fvy27 14 = F 14 := ((hFvy27 14 (by decide)).trans (fn rfl (by decide)))
    have hey447 : Fvy27 15 = F 15 := ((hFvy27 15 (by decide)).trans (fn rfl (by decide)))
    have hey448 : Fvy27 16 = F 16 := ((hFvy27 16 (by decide)).trans (fn rfl (by decide)))
    have hey449 : Fvy27 17 = F 17 := ((hFvy27 17 (by decide)).trans (fn rfl (by decide)))
    have hey450 : Fvy27 18 = F 18 := ((hFvy27 18 (by decide)).trans (fn rfl (by decide)))
    have hey451 : Fvy27 19 = F 19 := ((hFvy27 19 (by decide)).trans (fn rfl (by decide)))
    have hey452 : Fvy27 20 = F 20 := ((hFvy27 20 (by decide)).trans (fn rfl (by decide)))
    have hey453 : Fvy27 21 = F 21 := ((hFvy27 21 (by decide)).trans (fn rfl (by decide)))
    have hey454 : Fvy27 23 = F 23 := ((hFvy27 23 (by decide)).trans (fn rfl (by decide)))
    have hey455 : Fvy27 25 = F 25 := ((hFvy27 25 (by decide)).trans (fn rfl (by decide)))
    have hey456 : Fvy27 27 = F 27 := ((hFvy27 27 (by decide)).trans (fn rfl (by decide)))
    have hey457 : Fvy27 28 = F 28 := ((hFvy27 28 (by decide)).trans (fn rfl (by decide)))
    have hey458 : Fvy27 29 = F 29 := ((hFvy27 29 (by decide)).trans (fn rfl (by decide)))
    have hKy459 : okF Fvy27 := okF.mv hM.2.1 hey445 hey446 hey447 hey448 hey449 hey450 hey451 hey452 hey453 hey454 hey455 hey456 hey457 hey458
    have hMy460 : okMr cs ad gvy27 i (x + 1) Fvy27 r st op ai fa mu tb tp := okMr.upd hM hcvy27 hKy459 (fun f a => hFy444 f (by omega)) hgy443 (hA.mono (by omega)) (fun j a b => by
        exact Or.inl (by rw [hfvy27 _ (by omega)]; rw [egy25, va_up_ne _ _ (by omega)]))
    have hkpy461 : Fvy27 13 = F 13 := ((hFvy27 13 (by decide)).trans (fn rfl (by decide)))
    have hkpy462 : Fvy27 14 = F 14 := ((hFvy27 14 (by decide)).trans (fn rfl (by decide)))
    have hkpy463 : Fvy27 17 = F 17 := ((hFvy27 17 (by decide)).trans (fn rfl (by decide)))
    have hkpy464 : Fvy27 20 = F 20 := ((hFvy27 20 (by decide)).trans (fn rfl (by decide)))
    have hkpy465 : Fvy27 21 = F 21 := ((hFvy27 21 (by decide)).trans (fn rfl (by decide)))
    have hkpy466 : Fvy27 23 = F 23 := ((hFvy27 23 (by decide)).trans (fn rfl (by decide)))
    have hkpy467 : Fvy27 24 = F 24 := ((hFvy27 24 (by decide)).trans (fn rfl (by decide)))
    exact z_iret C hr hlk dX10_slope_29 (by decide) (by decide) ⟨0, rfl, rfl, rfl, by omega, ⟨_, _, hMy460, ⟨hkpy461, hkpy462, hkpy463, hkpy464, hkpy465, hkpy466, hkpy467⟩⟩, fun j j1 => by rw [hfvy27 _ (by omega)]; rw [egy25, va_up_ne _ _ (by omega)]⟩

set_option maxRecDepth 100000 in
set_option maxHeartbeats 4000000 in
theorem c_X10_slope_b (l : Launch) (D : va_G) (A : Nat → Prop) (cs : Nat → ClassId) (tt : Nat) (N : Nat) (ad : Nat → Nat) (g : Nat → va_E) (i : Nat) (hN : i + 30 ≤ N) (x : Int) (hx : 0 ≤ x ∧ x ≤ 512) (F r : Nat → Int) {st op ai fa mu tb tp : Nat → Int} (hM : okMr cs ad g i x F r st op ai fa mu tb tp) (z : Int) (hz : -2147483648 ≤ z ∧ z ≤ 2147483647) (hzo : z < 0 ∨ 3 < z) (z1 : Int) (hz1 : -2147483648 ≤ z1 ∧ z1 ≤ 2147483647) : zM l yX10_slope cX10_slope 3 (some .int) ({ frames := 11, cells := 0, slots := 0, locals := 660 } : Room) D A cs tt N ad g [.ref (ad i), .int (zI (z)), .int (zI (z1))] (rI0 N ad fun q g' => (-2147483648 ≤ q ∧ q ≤ 2147483647) ∧ (∃ F' r' : Nat → Int, okMr cs ad g' i (x + 1) F' r' st op ai fa mu tb tp ∧ (F' 13 = F 13 ∧ F' 14 = F 14 ∧ F' 17 = F 17 ∧ F' 20 = F 20 ∧ F' 21 = F 21 ∧ F' 23 = F 23 ∧ F' 24 = F 24)) ∧ ∀ j, j < i ∨ i + 30 ≤ j → g' j = g j) := by
  obtain ⟨hg, ⟨⟨e13, e14, e25, e27, e29⟩, k15, k16, k17, k18, k19, k20, k23, k21⟩, hRD, hTx, hA, ns, nh, nd, rf, pi, te, ki, li, ok1, ok2, fo, dd, dps, ⟨ha1, ha2, ha3, ha4, ha5, ha6, ha7, ha8, ha9, ha10, ha11, ha12, ha13, ha14, ha15, ha24, ha25, ha26, ha27, ha28, ha29⟩, hEv, hPt, hns, htp⟩ := id hM
  obtain ⟨-, hop, hai, hfa, hT, hT1⟩ := id hEv
  have hay1 : zAt ad (i) (ad i) := rfl
  have hay2 : zAt ad (i + 1) (ad (i + 1)) := rfl
  have hay3 : zAt ad (i + 2) (ad (i + 2)) := rfl
  have hay4 : zAt ad (i + 3) (ad (i + 3)) := rfl
  have hay5 : zAt ad (i + 4) (ad (i + 4)) := rfl
  have hay6 : zAt ad (i + 5) (ad (i + 5)) := rfl
  have hay7 : zAt ad (i + 6) (ad (i + 6)) := rfl
  have hay8 : zAt ad (i + 7) (ad (i + 7)) := rfl
  have hay9 : zAt ad (i + 8) (ad (i + 8)) := rfl
  have hay10 : zAt ad (i + 9) (ad (i + 9)) := rfl
  have hay11 : zAt ad (i + 10) (ad (i + 10)) := rfl
  have hay12 : zAt ad (i + 11) (ad (i + 11)) := rfl
  have hay13 : zAt ad (i + 12) (ad (i + 12)) := rfl
  have hay14 : zAt ad (i + 13) (ad (i + 13)) := rfl
  have hay15 : zAt ad (i + 14) (ad (i + 14)) := rfl
  have hay16 : zAt ad (i + 15) (ad (i + 15)) := rfl
  have hay17 : zAt ad (i + 24) (ad (i + 24)) := rfl
  have hay18 : zAt ad (i + 25) (ad (i + 25)) := rfl
  have hay19 : zAt ad (i + 26) (ad (i + 26)) := rfl
  have hay20 : zAt ad (i + 27) (ad (i + 27)) := rfl
  have hay21 : zAt ad (i + 28) (ad (i + 28)) := rfl
  have hay22 : zAt ad (i + 29) (ad (i + 29)) := rfl
  obtain ⟨⟨hsyy23, htyy23, hnyy23, hpyy23⟩, hlyy23⟩ := okA.at0 hA
  simp only [Nat.zero_add] at hsyy23 hnyy23 hpyy23
  have hmn : ∀ s, s < 4 → 0 ≤ r (6 + 86 * s) ∧ r (6 + 86 * s) ≤ 12 := fun s hs => (hsyy23 s hs).1
  have h5 : 0 ≤ r 5 ∧ r 5 ≤ 6 := hpyy23
  refine z_of (by decide) (Nat.le_of_ble_eq_true rfl) ?_
  intro pZ eZ sZ mZ below meth cZ C hr hlk hnm
  refine z_lv (lv' := [(0, .ref (ad i)), (1, .int (zI (z))), (2, .int (zI (z1)))]) [0, 1, 2] rfl ?_
  refine z_aload_n C 0 dX10_slope_0 rfl ?_
  refine z_iconst (z := 0) C dX10_slope_1 rfl ?_
  refine z_put (fs' := mF ad (i) (uZ F 12 (0))) C (lt_A0 hN rfl) hay1 hg tyX10 tyX10_ok nmX10 rfl inA_X10 12 (by decide) q_1471 rfl rfl rfl rfl (Nat.le_of_ble_eq_true rfl) rfl dX10_slope_2 (fun gy24 egy25 => ?_)
  have hgy26 := up_s egy25
  refine z_aload_n C 0 dX10_slope_5 rfl ?_
  refine z_iload_n C 1 dX10_slope_6 rfl ?_
  have h13vy27 : (uZ F 12 (0)) 13 = F 13 := (fn rfl (by decide))
  have hey28 : (uZ F 12 (0)) 12 = 0 := (uZ_s _ _ _)
  refine z_cV (As := [.int (zI (z))]) (rest := []) (ci := 12) C (c_X10_isSlope l D A cs tt N ad _ i hN _ hgy26 (by omega) (by omega) (z) (by omega)) (lt_A0 hN rfl) hay1 hgy26 rfl rfl mv_yX10_isSlope q_1803 hd_yX10_isSlope (by decide) (Nat.le_of_ble_eq_true rfl) (by decide) dX10_slope_7 rfl (kI0 fun vy27 gvy27 hvy27 => ?_)
  rw [h13vy27] at hvy27
  obtain ⟨hrvy27, ⟨Fvy27, hcvy27, htvy27, hFvy27⟩, hfvy27⟩ := hvy27
  obtain rfl : vy27 = 0 := by omega
  refine z_if_eq (tgt := 28) C dX10_slope_10 (by decide) (by omega) (fun _ => ?_) (fun h => absurd h (by omega))
  refine z_iconst (z := 0) C dX10_slope_28 rfl ?_
  have hgy29 := up_n egy25 ha1 (ne_o (i := i) (c := 1) (d := 0) rfl)
  have hgy30 := (hfvy27 (i + 1) (ne_o (i := i) (c := 1) (d := 0) rfl)).trans hgy29
  have hFy31 : ∀ f, f ≠ 12 → Fvy27 f = F f := fun f n12 => ((hFvy27 f n12).trans ((uZ_n _ _ n12).trans rfl))
  have hey32 : Fvy27 13 = F 13 := ((hFvy27 13 (by decide)).trans (fn rfl (by decide)))
  have hey33 : Fvy27 14 = F 14 := ((hFvy27 14 (by decide)).trans (fn rfl (by decide)))
  have hey34 : Fvy27 15 = F 15 := ((hFvy27 15 (by decide)).trans (fn rfl (by decide)))
  have hey35 : Fvy27 16 = F 16 := ((hFvy27 16 (by decide)).trans (fn rfl (by decide)))
  have hey36 : Fvy27 17 = F 17 := ((hFvy27 17 (by decide)).trans (fn rfl (by decide)))
  have hey37 : Fvy27 18 = F 18 := ((hFvy27 18 (by decide)).trans (fn rfl (by decide)))
  have hey38 : Fvy27 19 = F 19 := ((hFvy27 19 (by decide)).trans (fn rfl (by decide)))
  have hey39 : Fvy27 20 = F 20 := ((hFvy27 20 (by decide)).trans (fn rfl (by decide)))
  have hey40 : Fvy27 21 = F 21 := ((hFvy27 21 (by decide)).trans (fn rfl (by decide)))
  have hey41 : Fvy27 23 = F 23 := ((hFvy27 23 (by decide)).trans (fn rfl (by decide)))
  have hey42 : Fvy27 25 = F 25 := ((hFvy27 25 (by decide)).trans (fn rfl (by decide)))
  have hey43 : Fvy27 27 = F 27 := ((hFvy27 27 (by decide)).trans (fn rfl (by decide)))
  have hey44 : Fvy27 28 = F 28 := ((hFvy27 28 (by decide)).trans (fn rfl (by decide)))
  have hey45 : Fvy27 29 = F 29 := ((hFvy27 29 (by decide)).trans (fn rfl (by decide)))
  have hKy46 : okF Fvy27 := okF.mv hM.2.1 hey32 hey33 hey34 hey35 hey36 hey37 hey38 hey39 hey40 hey41 hey42 hey43 hey44 hey45
  have hMy47 : okMr cs ad gvy27 i (x + 1) Fvy27 r st op ai fa mu tb tp := okMr.upd hM hcvy27 hKy46 (fun f a => hFy31 f (by omega)) hgy30 (hA.mono (by omega)) (fun j a b => by
      exact Or.inl (by rw [hfvy27 _ (by omega)]; rw [egy25, va_up_ne _ _ (by omega)]))
  have hkpy48 : Fvy27 13 = F 13 := ((hFvy27 13 (by decide)).trans (fn rfl (by decide)))
  have hkpy49 : Fvy27 14 = F 14 := ((hFvy27 14 (by decide)).trans (fn rfl (by decide)))
  have hkpy50 : Fvy27 17 = F 17 := ((hFvy27 17 (by decide)).trans (fn rfl (by decide)))
  have hkpy51 : Fvy27 20 = F 20 := ((hFvy27 20 (by decide)).trans (fn rfl (by decide)))
  have hkpy52 : Fvy27 21 = F 21 := ((hFvy27 21 (by decide)).trans (fn rfl (by decide)))
  have hkpy53 : Fvy27 23 = F 23 := ((hFvy27 23 (by decide)).trans (fn rfl (by decide)))
  have hkpy54 : Fvy27 24 = F 24 := ((hFvy27 24 (by decide)).trans (fn rfl (by decide)))
  exact z_iret C hr hlk dX10_slope_29 (by decide) (by decide) ⟨0, rfl, rfl, rfl, by omega, ⟨_, _, hMy47, ⟨hkpy48, hkpy49, hkpy50, hkpy51, hkpy52, hkpy53, hkpy54⟩⟩, fun j j1 => by rw [hfvy27 _ (by omega)]; rw [egy25, va_up_ne _ _ (by omega)]⟩

set_option maxRecDepth 100000 in
set_option maxHeartbeats 4000000 in
theorem c_X10_slope (l : Launch) (D : va_G) (A : Nat → Prop) (cs : Nat → ClassId) (tt : Nat) (N : Nat) (ad : Nat → Nat) (g : Nat → va_E) (i : Nat) (hN : i + 30 ≤ N) (x : Int) (hx : 0 ≤ x ∧ x ≤ 512) (F r : Nat → Int) {st op ai fa mu tb tp : Nat → Int} (hM : okMr cs ad g i x F r st op ai fa mu tb tp) (z : Int) (hz : -2147483648 ≤ z ∧ z ≤ 2147483647) (z1 : Int) (hz1 : -2147483648 ≤ z1 ∧ z1 ≤ 2147483647) : zM l yX10_slope cX10_slope 3 (some .int) ({ frames := 11, cells := 0, slots := 0, locals := 660 } : Room) D A cs tt N ad g [.ref (ad i), .int (zI (z)), .int (zI (z1))] (rI0 N ad fun q g' => (-2147483648 ≤ q ∧ q ≤ 2147483647) ∧ (∃ F' r' : Nat → Int, okMr cs ad g' i (x + 1) F' r' st op ai fa mu tb tp ∧ (F' 13 = F 13 ∧ F' 14 = F 14 ∧ F' 17 = F 17 ∧ F' 20 = F 20 ∧ F' 21 = F 21 ∧ F' 23 = F 23 ∧ F' 24 = F 24)) ∧ ∀ j, j < i ∨ i + 30 ≤ j → g' j = g j) := by
  by_cases h9 : 0 ≤ z ∧ z ≤ 3
  · obtain ⟨n, rfl⟩ : ∃ n : Nat, z = (n : Int) := ⟨z.toNat, by omega⟩
    exact c_X10_slope_a l D A cs tt N ad g i hN x hx F r hM n (by omega) z1 hz1
  · exact c_X10_slope_b l D A cs tt N ad g i hN x hx F r hM z hz (by omega) z1 hz1

set_option maxRecDepth 100000 in
set_option maxHeartbeats 4000000 in
theorem c_X10_layer_a (l : Launch) (D : va_G) (A : Nat → Prop) (cs : Nat → ClassId) (tt : Nat) (N : Nat) (ad : Nat → Nat) (g : Nat → va_E) (i : Nat) (hN : i + 30 ≤ N) (x : Int) (hx : 0 ≤ x ∧ x ≤ 512) (F r : Nat → Int) {st op ai fa mu tb tp : Nat → Int} (hM : okMr cs ad g i x F r st op ai fa mu tb tp) (n : Nat) (hn4 : n < 4) (z1 : Int) (hz1 : -2147483648 ≤ z1 ∧ z1 ≤ 2147483647) (z2 : Int) (hz2 : -2147483648 ≤ z2 ∧ z2 ≤ 2147483647) : zM l yX10_layer cX10_layer 4 (some .int) ({ frames := 7, cells := 0, slots := 0, locals := 420 } : Room) D A cs tt N ad g [.ref (ad i), .int (zI ((n : Int))), .int (zI (z1)), .int (zI (z2))] (rI0 N ad fun q g' => (-2147483648 ≤ q ∧ q ≤ 2147483647) ∧ (∃ F' r' : Nat → Int, okMr cs ad g' i (x + 1) F' r' st op ai fa mu tb tp ∧ (F' 13 = F 13 ∧ F' 14 = F 14 ∧ F' 17 = F 17 ∧ F' 20 = F 20 ∧ F' 21 = F 21 ∧ F' 23 = F 23 ∧ F' 24 = F 24)) ∧ ∀ j, j < i ∨ i + 30 ≤ j → g' j = g j) := by
  obtain ⟨hg, ⟨⟨e13, e14, e25, e27, e29⟩, k15, k16, k17, k18, k19, k20, k23, k21⟩, hRD, hTx, hA, ns, nh, nd, rf, pi, te, ki, li, ok1, ok2, fo, dd, dps, ⟨ha1, ha2, ha3, ha4, ha5, ha6, ha7, ha8, ha9, ha10, ha11, ha12, ha13, ha14, ha15, ha24, ha25, ha26, ha27, ha28, ha29⟩, hEv, hPt, hns, htp⟩ := id hM
  obtain ⟨-, hop, hai, hfa, hT, hT1⟩ := id hEv
  have hay1 : zAt ad (i) (ad i) := rfl
  have hay2 : zAt ad (i + 1) (ad (i + 1)) := rfl
  have hay3 : zAt ad (i + 2) (ad (i + 2)) := rfl
  have hay4 : zAt ad (i + 3) (ad (i + 3)) := rfl
  have hay5 : zAt ad (i + 4) (ad (i + 4)) := rfl
  have hay6 : zAt ad (i + 5) (ad (i + 5)) := rfl
  have hay7 : zAt ad (i + 6) (ad (i + 6)) := rfl
  have hay8 : zAt ad (i + 7) (ad (i + 7)) := rfl
  have hay9 : zAt ad (i + 8) (ad (i + 8)) := rfl
  have hay10 : zAt ad (i + 9) (ad (i + 9)) := rfl
  have hay11 : zAt ad (i + 10) (ad (i + 10)) := rfl
  have hay12 : zAt ad (i + 11) (ad (i + 11)) := rfl
  have hay13 : zAt ad (i + 12) (ad (i + 12)) := rfl
  have hay14 : zAt ad (i + 13) (ad (i + 13)) := rfl
  have hay15 : zAt ad (i + 14) (ad (i + 14)) := rfl
  have hay16 : zAt ad (i + 15) (ad (i + 15)) := rfl
  have hay17 : zAt ad (i + 24) (ad (i + 24)) := rfl
  have hay18 : zAt ad (i + 25) (ad (i + 25)) := rfl
  have hay19 : zAt ad (i + 26) (ad (i + 26)) := rfl
  have hay20 : zAt ad (i + 27) (ad (i + 27)) := rfl
  have hay21 : zAt ad (i + 28) (ad (i + 28)) := rfl
  have hay22 : zAt ad (i + 29) (ad (i + 29)) := rfl
  obtain ⟨⟨hsyy23, htyy23, hnyy23, hpyy23⟩, hlyy23⟩ := okA.at0 hA
  simp only [Nat.zero_add] at hsyy23 hnyy23 hpyy23
  have hmn : ∀ s, s < 4 → 0 ≤ r (6 + 86 * s) ∧ r (6 + 86 * s) ≤ 12 := fun s hs => (hsyy23 s hs).1
  have h5 : 0 ≤ r 5 ∧ r 5 ≤ 6 := hpyy23
  refine z_of (by decide) (Nat.le_of_ble_eq_true rfl) ?_
  intro pZ eZ sZ mZ below meth cZ C hr hlk hnm
  refine z_lv (lv' := [(0, .ref (ad i)), (1, .int (zI ((n : Int)))), (2, .int (zI (z1))), (3, .int (zI (z2)))]) [0, 1, 2, 3] rfl ?_
  refine z_aload_n C 0 dX10_layer_0 rfl ?_
  refine z_iconst (z := 0) C dX10_layer_1 rfl ?_
  refine z_put (fs' := mF ad (i) (uZ F 12 (0))) C (lt_A0 hN rfl) hay1 hg tyX10 tyX10_ok nmX10 rfl inA_X10 12 (by decide) q_1471 rfl rfl rfl rfl (Nat.le_of_ble_eq_true rfl) rfl dX10_layer_2 (fun gy24 egy25 => ?_)
  have hgy26 := up_s egy25
  refine z_aload_n C 0 dX10_layer_5 rfl ?_
  refine z_iload_n C 1 dX10_layer_6 rfl ?_
  refine z_iload_n C 2 dX10_layer_7 rfl ?_
  have hgy27 := up_n egy25 ha1 (ne_o (i := i) (c := 1) (d := 0) rfl)
  have h13vy28 : (uZ F 12 (0)) 13 = F 13 := (fn rfl (by decide))
  have hey29 : (uZ F 12 (0)) 12 = 0 := (uZ_s _ _ _)
  obtain ⟨py30, hpy30⟩ : ∃ p9 : Nat, 0 + 6 + 86 * n = p9 := ⟨_, rfl⟩
  refine z_cV (As := [.int (zI ((n : Int))), .int (zI (z1))]) (rest := []) (ci := 12) C (c_X10_isLayer_a l D A cs tt N ad _ i hN _ hgy26 _ hgy27 hmn (by omega) (by omega) n py30 (by omega) (by omega) (z1) (by omega)) (lt_A0 hN rfl) hay1 hgy26 rfl rfl mv_yX10_isLayer q_1819 hd_yX10_isLayer (by decide) (Nat.le_of_ble_eq_true rfl) (by decide) dX10_layer_8 rfl (kI0 fun vy28 gvy28 hvy28 => ?_)
  rw [h13vy28] at hvy28
  obtain ⟨hrvy28, ⟨Fvy28, hcvy28, htvy28, hFvy28⟩, hfvy28⟩ := hvy28
  rcases (show vy28 = 1 ∨ vy28 = 0 by omega) with rfl | rfl
  · have hxvy28 := hrvy28.2 rfl
    have hmpy30 := hmn n (by omega)
    rw [show 6 + 86 * n = py30 by omega] at hmpy30
    refine z_if_eq (tgt := 29) C dX10_layer_11 (by decide) (by omega) (fun h => absurd h (by omega)) (fun _ => ?_)
    refine z_aload_n C 0 dX10_layer_14 rfl ?_
    refine z_iload_n C 3 dX10_layer_15 rfl ?_
    refine z_iconst (z := 0) C dX10_layer_16 rfl ?_
    refine z_bipush (z := 11) C dX10_layer_17 (by decide) ?_
    refine z_cS (As := [.int (zI (z2)), .int (zI (0)), .int (zI (11))]) (rest := [.ref (ad i)]) C (c_X10_within l D A cs tt N ad _ (z2) (by omega) (0) (by omega) (11) (by omega)) ms_yX10_within q_1686 hd_yX10_within (by decide) (Nat.le_of_ble_eq_true rfl) (by decide) dX10_layer_19 rfl (kI0 fun vy31 gvy31 hvy31 => ?_)
    obtain ⟨hvy31, rfl⟩ := hvy31
    rcases hvy31 with ⟨rfl, hxvy31⟩ | ⟨rfl, hxvy31⟩
    · refine z_iconst (z := 1) C dX10_layer_22 rfl ?_
      have hey33 : Fvy28 12 = Fvy28 12 := rfl
      refine z_cV (As := [.int (zI (1)), .int (zI (1))]) (rest := []) (ci := 12) C (c_X10_right l D A cs tt N ad _ i hN _ hcvy28 (by omega) (1) (by omega) (1) (by omega)) (lt_A0 hN rfl) hay1 hcvy28 rfl rfl mv_yX10_right q_1648 hd_yX10_right (by decide) (Nat.le_of_ble_eq_true rfl) (by decide) dX10_layer_23 rfl (kI0 fun vy32 gvy32 hvy32 => ?_)
      obtain ⟨hrvy32, ⟨Fvy32, hcvy32, htvy32, hFvy32⟩, hfvy32⟩ := hvy32
      rcases (show vy32 = 1 ∨ vy32 = 0 by omega) with rfl | rfl
      · refine z_if_ne (tgt := 31) C dX10_layer_26 (by decide) (by omega) (fun _ => ?_) (fun h => absurd h (by omega))
        refine z_iload_n C 3 dX10_layer_31 rfl ?_
        by_cases hsy34 : z2 ≠ 7 ∧ z2 ≠ 8 ∧ z2 ≠ 9 ∧ z2 ≠ 10 ∧ z2 ≠ 11
        · refine z_tout (tgt := 127) C dX10_layer_32 (by omega) (by omega) (by decide) ?_
          refine z_aload_n C 0 dX10_layer_127 rfl ?_
          refine z_iconst (z := 0) C dX10_layer_128 rfl ?_
          refine z_iload_n C 1 dX10_layer_129 rfl ?_
          refine z_iload_n C 2 dX10_layer_130 rfl ?_
          refine z_iload_n C 3 dX10_layer_131 rfl ?_
          obtain ⟨ky35, hky35⟩ : ∃ k9 : Nat, (z1) = (k9 : Int) := ⟨((z1) : Int).toNat, by omega⟩
          obtain ⟨qy36, hqy36⟩ : ∃ q9 : Nat, py30 + 2 + 7 * ky35 = q9 := ⟨_, rfl⟩
          have hgy37 := (hfvy28 (i + 1) (ne_o (i := i) (c := 1) (d := 0) rfl)).trans hgy27
          have hgy38 := (hfvy32 (i + 1) (ne_o (i := i) (c := 1) (d := 0) rfl)).trans hgy37
          refine z_cV (As := [.int (zI (0)), .int (zI ((n : Int))), .int (zI (z1)), .int (zI (z2))]) (rest := []) (ci := 12) C (c_X10_of l D A cs tt N ad _ i hN _ hcvy32 _ hgy38 0 n py30 hpy30 (by omega) (by omega) (z1) (z2) (qy36 + (z2).toNat) (by omega) (by omega) (by omega)) (lt_A0 hN rfl) hay1 hcvy32 rfl rfl mv_yX10_of q_1749 hd_yX10_of (by decide) (Nat.le_of_ble_eq_true rfl) (by decide) dX10_layer_132 rfl (kI0 fun vy39 gvy39 hvy39 => ?_)
          obtain ⟨rfl, rfl⟩ := hvy39
          obtain ⟨xy40, exy41, hxy42⟩ := zI_of (zI (r (qy36 + (z2).toNat)))
          rw [exy41]
          have hFy43 : ∀ f, f ≠ 12 → Fvy32 f = F f := fun f n12 => ((hFvy32 f n12).trans ((hFvy28 f n12).trans ((uZ_n _ _ n12).trans rfl)))
          have hey44 : Fvy32 13 = F 13 := ((hFvy32 13 (by decide)).trans ((hFvy28 13 (by decide)).trans (fn rfl (by decide))))
          have hey45 : Fvy32 14 = F 14 := ((hFvy32 14 (by decide)).trans ((hFvy28 14 (by decide)).trans (fn rfl (by decide))))
          have hey46 : Fvy32 15 = F 15 := ((hFvy32 15 (by decide)).trans ((hFvy28 15 (by decide)).trans (fn rfl (by decide))))
          have hey47 : Fvy32 16 = F 16 := ((hFvy32 16 (by decide)).trans ((hFvy28 16 (by decide)).trans (fn rfl (by decide))))
          have hey48 : Fvy32 17 = F 17 := ((hFvy32 17 (by decide)).trans ((hFvy28 17 (by decide)).trans (fn rfl (by decide))))
          have hey49 : Fvy32 18 = F 18 := ((hFvy32 18 (by decide)).trans ((hFvy28 18 (by decide)).trans (fn rfl (by decide))))
          have hey50 : Fvy32 19 = F 19 := ((hFvy32 19 (by decide)).trans ((hFvy28 19 (by decide)).trans (fn rfl (by decide))))
          have hey51 : Fvy32 20 = F 20 := ((hFvy32 20 (by decide)).trans ((hFvy28 20 (by decide)).trans (fn rfl (by decide))))
          have hey52 : Fvy32 21 = F 21 := ((hFvy32 21 (by decide)).trans ((hFvy28 21 (by decide)).trans (fn rfl (by decide))))
          have hey53 : Fvy32 23 = F 23 := ((hFvy32 23 (by decide)).trans ((hFvy28 23 (by decide)).trans (fn rfl (by decide))))
          have hey54 : Fvy32 25 = F 25 := ((hFvy32 25 (by decide)).trans ((hFvy28 25 (by decide)).trans (fn rfl (by decide))))
          have hey55 : Fvy32 27 = F 27 := ((hFvy32 27 (by decide)).trans ((hFvy28 27 (by decide)).trans (fn rfl (by decide))))
          have hey56 : Fvy32 28 = F 28 := ((hFvy32 28 (by decide)).trans ((hFvy28 28 (by decide)).trans (fn rfl (by decide))))
          have hey57 : Fvy32 29 = F 29 := ((hFvy32 29 (by decide)).trans ((hFvy28 29 (by decide)).trans (fn rfl (by decide))))
          have hKy58 : okF Fvy32 := okF.mv hM.2.1 hey44 hey45 hey46 hey47 hey48 hey49 hey50 hey51 hey52 hey53 hey54 hey55 hey56 hey57
          have hMy59 : okMr cs ad gvy32 i (x + 1) Fvy32 r st op ai fa mu tb tp := okMr.upd hM hcvy32 hKy58 (fun f a => hFy43 f (by omega)) hgy38 (hA.mono (by omega)) (fun j a b => by
              exact Or.inl (by rw [hfvy32 _ (by omega)]; rw [hfvy28 _ (by omega)]; rw [egy25, va_up_ne _ _ (by omega)]))
          have hkpy60 : Fvy32 13 = F 13 := ((hFvy32 13 (by decide)).trans ((hFvy28 13 (by decide)).trans (fn rfl (by decide))))
          have hkpy61 : Fvy32 14 = F 14 := ((hFvy32 14 (by decide)).trans ((hFvy28 14 (by decide)).trans (fn rfl (by decide))))
          have hkpy62 : Fvy32 17 = F 17 := ((hFvy32 17 (by decide)).trans ((hFvy28 17 (by decide)).trans (fn rfl (by decide))))
          have hkpy63 : Fvy32 20 = F 20 := ((hFvy32 20 (by decide)).trans ((hFvy28 20 (by decide)).trans (fn rfl (by decide))))
          have hkpy64 : Fvy32 21 = F 21 := ((hFvy32 21 (by decide)).trans ((hFvy28 21 (by decide)).trans (fn rfl (by decide))))
          have hkpy65 : Fvy32 23 = F 23 := ((hFvy32 23 (by decide)).trans ((hFvy28 23 (by decide)).trans (fn rfl (by decide))))
          have hkpy66 : Fvy32 24 = F 24 := ((hFvy32 24 (by decide)).trans ((hFvy28 24 (by decide)).trans (fn rfl (by decide))))
          exact z_iret C hr hlk dX10_layer_135 (by decide) (by decide) ⟨xy40, rfl, rfl, rfl, by omega, ⟨_, _, hMy59, ⟨hkpy60, hkpy61, hkpy62, hkpy63, hkpy64, hkpy65, hkpy66⟩⟩, fun j j1 => by rw [hfvy32 _ (by omega)]; rw [hfvy28 _ (by omega)]; rw [egy25, va_up_ne _ _ (by omega)]⟩
        · rcases (show z2 = 7 ∨ z2 = 8 ∨ z2 = 9 ∨ z2 = 10 ∨ z2 = 11 by omega) with rfl | rfl | rfl | rfl | rfl
          · refine z_tin (off := 36) (tgt := 68) C dX10_layer_32 (by omega) (by omega) (by omega) rfl (by decide) ?_
            refine z_aload_n C 0 dX10_layer_68 rfl ?_
            refine z_iconst (z := 0) C dX10_layer_69 rfl ?_
            refine z_iload_n C 1 dX10_layer_70 rfl ?_
            refine z_iload_n C 2 dX10_layer_71 rfl ?_
            have hSy67 := ((okA.at0 hA).1.1 n (by omega)).of (p2 := py30) (by omega)
            obtain ⟨b1hSy67, b2hSy67, b3hSy67, b4hSy67⟩ := mBb (t := r 0 + x) (by omega)
            have hmky68 := hSy67.1
            have hgy69 := (hfvy28 (i + 1) (ne_o (i := i) (c := 1) (d := 0) rfl)).trans hgy27
            have hgy70 := (hfvy32 (i + 1) (ne_o (i := i) (c := 1) (d := 0) rfl)).trans hgy69
            refine z_cV (As := [.int (zI (0)), .int (zI ((n : Int))), .int (zI (z1))]) (rest := []) (ci := 12) C (c_X10_load l D A cs tt N ad _ i hN _ hcvy32 _ hgy70 0 n py30 hpy30 (by omega) (by omega) (mB (r 0 + x)) (eB (r 0 + x)) (by omega) (by omega) hSy67 (z1) (by omega)) (lt_A0 hN rfl) hay1 hcvy32 rfl rfl mv_yX10_load q_1823 hd_yX10_load (by decide) (Nat.le_of_ble_eq_true rfl) (by decide) dX10_layer_72 rfl (kI0 fun vy71 gvy71 hvy71 => ?_)
            obtain ⟨hvy71, rfl⟩ := hvy71
            have hFy72 : ∀ f, f ≠ 12 → Fvy32 f = F f := fun f n12 => ((hFvy32 f n12).trans ((hFvy28 f n12).trans ((uZ_n _ _ n12).trans rfl)))
            have hey73 : Fvy32 13 = F 13 := ((hFvy32 13 (by decide)).trans ((hFvy28 13 (by decide)).trans (fn rfl (by decide))))
            have hey74 : Fvy32 14 = F 14 := ((hFvy32 14 (by decide)).trans ((hFvy28 14 (by decide)).trans (fn rfl (by decide))))
            have hey75 : Fvy32 15 = F 15 := ((hFvy32 15 (by decide)).trans ((hFvy28 15 (by decide)).trans (fn rfl (by decide))))
            have hey76 : Fvy32 16 = F 16 := ((hFvy32 16 (by decide)).trans ((hFvy28 16 (by decide)).trans (fn rfl (by decide))))
            have hey77 : Fvy32 17 = F 17 := ((hFvy32 17 (by decide)).trans ((hFvy28 17 (by decide)).trans (fn rfl (by decide))))
            have hey78 : Fvy32 18 = F 18 := ((hFvy32 18 (by decide)).trans ((hFvy28 18 (by decide)).trans (fn rfl (by decide))))
            have hey79 : Fvy32 19 = F 19 := ((hFvy32 19 (by decide)).trans ((hFvy28 19 (by decide)).trans (fn rfl (by decide))))
            have hey80 : Fvy32 20 = F 20 := ((hFvy32 20 (by decide)).trans ((hFvy28 20 (by decide)).trans (fn rfl (by decide))))
            have hey81 : Fvy32 21 = F 21 := ((hFvy32 21 (by decide)).trans ((hFvy28 21 (by decide)).trans (fn rfl (by decide))))
            have hey82 : Fvy32 23 = F 23 := ((hFvy32 23 (by decide)).trans ((hFvy28 23 (by decide)).trans (fn rfl (by decide))))
            have hey83 : Fvy32 25 = F 25 := ((hFvy32 25 (by decide)).trans ((hFvy28 25 (by decide)).trans (fn rfl (by decide))))
            have hey84 : Fvy32 27 = F 27 := ((hFvy32 27 (by decide)).trans ((hFvy28 27 (by decide)).trans (fn rfl (by decide))))
            have hey85 : Fvy32 28 = F 28 := ((hFvy32 28 (by decide)).trans ((hFvy28 28 (by decide)).trans (fn rfl (by decide))))
            have hey86 : Fvy32 29 = F 29 := ((hFvy32 29 (by decide)).trans ((hFvy28 29 (by decide)).trans (fn rfl (by decide))))
            have hKy87 : okF Fvy32 := okF.mv hM.2.1 hey73 hey74 hey75 hey76 hey77 hey78 hey79 hey80 hey81 hey82 hey83 hey84 hey85 hey86
            have hMy88 : okMr cs ad gvy32 i (x + 1) Fvy32 r st op ai fa mu tb tp := okMr.upd hM hcvy32 hKy87 (fun f a => hFy72 f (by omega)) hgy70 (hA.mono (by omega)) (fun j a b => by
                exact Or.inl (by rw [hfvy32 _ (by omega)]; rw [hfvy28 _ (by omega)]; rw [egy25, va_up_ne _ _ (by omega)]))
            have hkpy89 : Fvy32 13 = F 13 := ((hFvy32 13 (by decide)).trans ((hFvy28 13 (by decide)).trans (fn rfl (by decide))))
            have hkpy90 : Fvy32 14 = F 14 := ((hFvy32 14 (by decide)).trans ((hFvy28 14 (by decide)).trans (fn rfl (by decide))))
            have hkpy91 : Fvy32 17 = F 17 := ((hFvy32 17 (by decide)).trans ((hFvy28 17 (by decide)).trans (fn rfl (by decide))))
            have hkpy92 : Fvy32 20 = F 20 := ((hFvy32 20 (by decide)).trans ((hFvy28 20 (by decide)).trans (fn rfl (by decide))))
            have hkpy93 : Fvy32 21 = F 21 := ((hFvy32 21 (by decide)).trans ((hFvy28 21 (by decide)).trans (fn rfl (by decide))))
            have hkpy94 : Fvy32 23 = F 23 := ((hFvy32 23 (by decide)).trans ((hFvy28 23 (by decide)).trans (fn rfl (by decide))))
            have hkpy95 : Fvy32 24 = F 24 := ((hFvy32 24 (by decide)).trans ((hFvy28 24 (by decide)).trans (fn rfl (by decide))))
            exact z_iret C hr hlk dX10_layer_75 (by decide) (by decide) ⟨vy71, rfl, rfl, rfl, by omega, ⟨_, _, hMy88, ⟨hkpy89, hkpy90, hkpy91, hkpy92, hkpy93, hkpy94, hkpy95⟩⟩, fun j j1 => by rw [hfvy32 _ (by omega)]; rw [hfvy28 _ (by omega)]; rw [egy25, va_up_ne _ _ (by omega)]⟩
          · refine z_tin (off := 44) (tgt := 76) C dX10_layer_32 (by omega) (by omega) (by omega) rfl (by decide) ?_
            refine z_aload_n C 0 dX10_layer_76 rfl ?_
            refine z_iconst (z := 0) C dX10_layer_77 rfl ?_
            refine z_iload_n C 1 dX10_layer_78 rfl ?_
            refine z_iload_n C 2 dX10_layer_79 rfl ?_
            refine z_aload_n C 0 dX10_layer_80 rfl ?_
            refine z_iconst (z := 0) C dX10_layer_81 rfl ?_
            have hgy96 := (hfvy28 (i + 1) (ne_o (i := i) (c := 1) (d := 0) rfl)).trans hgy27
            have hgy97 := (hfvy32 (i + 1) (ne_o (i := i) (c := 1) (d := 0) rfl)).trans hgy96
            have hey99 : Fvy32 14 = F 14 := ((hFvy32 14 (by decide)).trans ((hFvy28 14 (by decide)).trans (fn rfl (by decide))))
            have hey100 : Fvy32 25 = F 25 := ((hFvy32 25 (by decide)).trans ((hFvy28 25 (by decide)).trans (fn rfl (by decide))))
            have hgy101 := up_n egy25 ha4 (ne_o (i := i) (c := 4) (d := 0) rfl)
            have hgy102 := (hfvy28 (i + 4) (ne_o (i := i) (c := 4) (d := 0) rfl)).trans hgy101
            have hgy103 := (hfvy32 (i + 4) (ne_o (i := i) (c := 4) (d := 0) rfl)).trans hgy102
            refine z_cV (As := [.int (zI (0))]) (rest := [.int (zI (z1)), .int (zI ((n : Int))), .int (zI (0)), .ref (ad i)]) (ci := 12) C (c_X10_airOf l D A cs tt N ad _ i hN _ hcvy32 _ hgy97 _ hgy103 0 (by omega) (by omega) (by omega) (by omega) hai) (lt_A0 hN rfl) hay1 hcvy32 rfl rfl mv_yX10_airOf q_1827 hd_yX10_airOf (by decide) (Nat.le_of_ble_eq_true rfl) (by decide) dX10_layer_82 rfl (kI0 fun vy98 gvy98 hvy98 => ?_)
            obtain ⟨hvy98, rfl⟩ := hvy98
            have hqy105 : qS r py30 := (((okA.at0 hA).1.1 n (by omega)).of (p2 := py30) (by omega)).q (by have hb9 := mBb (t := r 0 + x) (by omega); omega)
            have hmky106 := hqy105.1
            refine z_cV (As := [.int (zI (0)), .int (zI ((n : Int))), .int (zI (z1)), .int (zI (vy98))]) (rest := []) (ci := 12) C (c_X10_grade l D A cs tt N ad _ i hN _ hcvy32 _ hgy97 0 n py30 hpy30 (by omega) (by omega) hqy105 (z1) (by omega) (vy98) (by omega)) (lt_A0 hN rfl) hay1 hcvy32 rfl rfl mv_yX10_grade q_1835 hd_yX10_grade (by decide) (Nat.le_of_ble_eq_true rfl) (by decide) dX10_layer_85 rfl (kI0 fun vy104 gvy104 hvy104 => ?_)
            obtain ⟨hvy104, rfl⟩ := hvy104
            have hFy107 : ∀ f, f ≠ 12 → Fvy32 f = F f := fun f n12 => ((hFvy32 f n12).trans ((hFvy28 f n12).trans ((uZ_n _ _ n12).trans rfl)))
            have hey108 : Fvy32 13 = F 13 := ((hFvy32 13 (by decide)).trans ((hFvy28 13 (by decide)).trans (fn rfl (by decide))))
            have hey109 : Fvy32 14 = F 14 := ((hFvy32 14 (by decide)).trans ((hFvy28 14 (by decide)).trans (fn rfl (by decide))))
            have hey110 : Fvy32 15 = F 15 := ((hFvy32 15 (by decide)).trans ((hFvy28 15 (by decide)).trans (fn rfl (by decide))))
            have hey111 : Fvy32 16 = F 16 := ((hFvy32 16 (by decide)).trans ((hFvy28 16 (by decide)).trans (fn rfl (by decide))))
            have hey112 : Fvy32 17 = F 17 := ((hFvy32 17 (by decide)).trans ((hFvy28 17 (by decide)).trans (fn rfl (by decide))))
            have hey113 : Fvy32 18 = F 18 := ((hFvy32 18 (by decide)).trans ((hFvy28 18 (by decide)).trans (fn rfl (by decide))))
            have hey114 : Fvy32 19 = F 19 := ((hFvy32 19 (by decide)).trans ((hFvy28 19 (by decide)).trans (fn rfl (by decide))))
            have hey115 : Fvy32 20 = F 20 := ((hFvy32 20 (by decide)).trans ((hFvy28 20 (by decide)).trans (fn rfl (by decide))))
            have hey116 : Fvy32 21 = F 21 := ((hFvy32 21 (by decide)).trans ((hFvy28 21 (by decide)).trans (fn rfl (by decide))))
            have hey117 : Fvy32 23 = F 23 := ((hFvy32 23 (by decide)).trans ((hFvy28 23 (by decide)).trans (fn rfl (by decide))))
            have hey118 : Fvy32 25 = F 25 := ((hFvy32 25 (by decide)).trans ((hFvy28 25 (by decide)).trans (fn rfl (by decide))))
            have hey119 : Fvy32 27 = F 27 := ((hFvy32 27 (by decide)).trans ((hFvy28 27 (by decide)).trans (fn rfl (by decide))))
            have hey120 : Fvy32 28 = F 28 := ((hFvy32 28 (by decide)).trans ((hFvy28 28 (by decide)).trans (fn rfl (by decide))))
            have hey121 : Fvy32 29 = F 29 := ((hFvy32 29 (by decide)).trans ((hFvy28 29 (by decide)).trans (fn rfl (by decide))))
            have hKy122 : okF Fvy32 := okF.mv hM.2.1 hey108 hey109 hey110 hey111 hey112 hey113 hey114 hey115 hey116 hey117 hey118 hey119 hey120 hey121
            have hMy123 : okMr cs ad gvy32 i (x + 1) Fvy32 r st op ai fa mu tb tp := okMr.upd hM hcvy32 hKy122 (fun f a => hFy107 f (by omega)) hgy97 (hA.mono (by omega)) (fun j a b => by
                exact Or.inl (by rw [hfvy32 _ (by omega)]; rw [hfvy28 _ (by omega)]; rw [egy25, va_up_ne _ _ (by omega)]))
            have hkpy124 : Fvy32 13 = F 13 := ((hFvy32 13 (by decide)).trans ((hFvy28 13 (by decide)).trans (fn rfl (by decide))))
            have hkpy125 : Fvy32 14 = F 14 := ((hFvy32 14 (by decide)).trans ((hFvy28 14 (by decide)).trans (fn rfl (by decide))))
            have hkpy126 : Fvy32 17 = F 17 := ((hFvy32 17 (by decide)).trans ((hFvy28 17 (by decide)).trans (fn rfl (by decide))))
            have hkpy127 : Fvy32 20 = F 20 := ((hFvy32 20 (by decide)).trans ((hFvy28 20 (by decide)).trans (fn rfl (by decide))))
            have hkpy128 : Fvy32 21 = F 21 := ((hFvy32 21 (by decide)).trans ((hFvy28 21 (by decide)).trans (fn rfl (by decide))))
            have hkpy129 : Fvy32 23 = F 23 := ((hFvy32 23 (by decide)).trans ((hFvy28 23 (by decide)).trans (fn rfl (by decide))))
            have hkpy130 : Fvy32 24 = F 24 := ((hFvy32 24 (by decide)).trans ((hFvy28 24 (by decide)).trans (fn rfl (by decide))))
            exact z_iret C hr hlk dX10_layer_88 (by decide) (by decide) ⟨vy104, rfl, rfl, rfl, by omega, ⟨_, _, hMy123, ⟨hkpy124, hkpy125, hkpy126, hkpy127, hkpy128, hkpy129, hkpy130⟩⟩, fun j j1 => by rw [hfvy32 _ (by omega)]; rw [hfvy28 _ (by omega)]; rw [egy25, va_up_ne _ _ (by omega)]⟩
          · refine z_tin (off := 57) (tgt := 89) C dX10_layer_32 (by omega) (by omega) (by omega) rfl (by decide) ?_
            refine z_aload_n C 0 dX10_layer_89 rfl ?_
            refine z_iconst (z := 0) C dX10_layer_90 rfl ?_
            refine z_iload_n C 1 dX10_layer_91 rfl ?_
            refine z_iload_n C 2 dX10_layer_92 rfl ?_
            have hgy131 := (hfvy28 (i + 1) (ne_o (i := i) (c := 1) (d := 0) rfl)).trans hgy27
            have hgy132 := (hfvy32 (i + 1) (ne_o (i := i) (c := 1) (d := 0) rfl)).trans hgy131
            have hgy134 := up_n egy25 ha7 (ne_o (i := i) (c := 7) (d := 0) rfl)
            have hgy135 := (hfvy28 (i + 7) (ne_o (i := i) (c := 7) (d := 0) rfl)).trans hgy134
            have hgy136 := (hfvy32 (i + 7) (ne_o (i := i) (c := 7) (d := 0) rfl)).trans hgy135
            have hqy137 : qS r py30 := (((okA.at0 hA).1.1 n (by omega)).of (p2 := py30) (by omega)).q (by have hb9 := mBb (t := r 0 + x) (by omega); omega)
            have hmky138 := hqy137.1
            refine z_cV (As := [.int (zI (0)), .int (zI ((n : Int))), .int (zI (z1))]) (rest := []) (ci := 12) C (c_X10_strength l D A cs tt N ad _ i hN _ hcvy32 _ hgy132 _ hgy136 0 n py30 hpy30 (by omega) (by omega) hqy137 (z1) (by omega)) (lt_A0 hN rfl) hay1 hcvy32 rfl rfl mv_yX10_strength q_1788 hd_yX10_strength (by decide) (Nat.le_of_ble_eq_true rfl) (by decide) dX10_layer_93 rfl (kI0 fun vy133 gvy133 hvy133 => ?_)
            obtain ⟨hvy133, rfl⟩ := hvy133
            have hFy139 : ∀ f, f ≠ 12 → Fvy32 f = F f := fun f n12 => ((hFvy32 f n12).trans ((hFvy28 f n12).trans ((uZ_n _ _ n12).trans rfl)))
            have hey140 : Fvy32 13 = F 13 := ((hFvy32 13 (by decide)).trans ((hFvy28 13 (by decide)).trans (fn rfl (by decide))))
            have hey141 : Fvy32 14 = F 14 := ((hFvy32 14 (by decide)).trans ((hFvy28 14 (by decide)).trans (fn rfl (by decide))))
            have hey142 : Fvy32 15 = F 15 := ((hFvy32 15 (by decide)).trans ((hFvy28 15 (by decide)).trans (fn rfl (by decide))))
            have hey143 : Fvy32 16 = F 16 := ((hFvy32 16 (by decide)).trans ((hFvy28 16 (by decide)).trans (fn rfl (by decide))))
            have hey144 : Fvy32 17 = F 17 := ((hFvy32 17 (by decide)).trans ((hFvy28 17 (by decide)).trans (fn rfl (by decide))))
            have hey145 : Fvy32 18 = F 18 := ((hFvy32 18 (by decide)).trans ((hFvy28 18 (by decide)).trans (fn rfl (by decide))))
            have hey146 : Fvy32 19 = F 19 := ((hFvy32 19 (by decide)).trans ((hFvy28 19 (by decide)).trans (fn rfl (by decide))))
            have hey147 : Fvy32 20 = F 20 := ((hFvy32 20 (by decide)).trans ((hFvy28 20 (by decide)).trans (fn rfl (by decide))))
            have hey148 : Fvy32 21 = F 21 := ((hFvy32 21 (by decide)).trans ((hFvy28 21 (by decide)).trans (fn rfl (by decide))))
            have hey149 : Fvy32 23 = F 23 := ((hFvy32 23 (by decide)).trans ((hFvy28 23 (by decide)).trans (fn rfl (by decide))))
            have hey150 : Fvy32 25 = F 25 := ((hFvy32 25 (by decide)).trans ((hFvy28 25 (by decide)).trans (fn rfl (by decide))))
            have hey151 : Fvy32 27 = F 27 := ((hFvy32 27 (by decide)).trans ((hFvy28 27 (by decide)).trans (fn rfl (by decide))))
            have hey152 : Fvy32 28 = F 28 := ((hFvy32 28 (by decide)).trans ((hFvy28 28 (by decide)).trans (fn rfl (by decide))))
            have hey153 : Fvy32 29 = F 29 := ((hFvy32 29 (by decide)).trans ((hFvy28 29 (by decide)).trans (fn rfl (by decide))))
            have hKy154 : okF Fvy32 := okF.mv hM.2.1 hey140 hey141 hey142 hey143 hey144 hey145 hey146 hey147 hey148 hey149 hey150 hey151 hey152 hey153
            have hMy155 : okMr cs ad gvy32 i (x + 1) Fvy32 r st op ai fa mu tb tp := okMr.upd hM hcvy32 hKy154 (fun f a => hFy139 f (by omega)) hgy132 (hA.mono (by omega)) (fun j a b => by
                exact Or.inl (by rw [hfvy32 _ (by omega)]; rw [hfvy28 _ (by omega)]; rw [egy25, va_up_ne _ _ (by omega)]))
            have hkpy156 : Fvy32 13 = F 13 := ((hFvy32 13 (by decide)).trans ((hFvy28 13 (by decide)).trans (fn rfl (by decide))))
            have hkpy157 : Fvy32 14 = F 14 := ((hFvy32 14 (by decide)).trans ((hFvy28 14 (by decide)).trans (fn rfl (by decide))))
            have hkpy158 : Fvy32 17 = F 17 := ((hFvy32 17 (by decide)).trans ((hFvy28 17 (by decide)).trans (fn rfl (by decide))))
            have hkpy159 : Fvy32 20 = F 20 := ((hFvy32 20 (by decide)).trans ((hFvy28 20 (by decide)).trans (fn rfl (by decide))))
            have hkpy160 : Fvy32 21 = F 21 := ((hFvy32 21 (by decide)).trans ((hFvy28 21 (by decide)).trans (fn rfl (by decide))))
            have hkpy161 : Fvy32 23 = F 23 := ((hFvy32 23 (by decide)).trans ((hFvy28 23 (by decide)).trans (fn rfl (by decide))))
            have hkpy162 : Fvy32 24 = F 24 := ((hFvy32 24 (by decide)).trans ((hFvy28 24 (by decide)).trans (fn rfl (by decide))))
            exact z_iret C hr hlk dX10_layer_96 (by decide) (by decide) ⟨vy133, rfl, rfl, rfl, by omega, ⟨_, _, hMy155, ⟨hkpy156, hkpy157, hkpy158, hkpy159, hkpy160, hkpy161, hkpy162⟩⟩, fun j j1 => by rw [hfvy32 _ (by omega)]; rw [hfvy28 _ (by omega)]; rw [egy25, va_up_ne _ _ (by omega)]⟩
          · refine z_tin (off := 65) (tgt := 97) C dX10_layer_32 (by omega) (by omega) (by omega) rfl (by decide) ?_
            refine z_aload_n C 0 dX10_layer_97 rfl ?_
            refine z_iconst (z := 0) C dX10_layer_98 rfl ?_
            refine z_iload_n C 1 dX10_layer_99 rfl ?_
            refine z_iload_n C 2 dX10_layer_100 rfl ?_
            refine z_iconst (z := 0) C dX10_layer_101 rfl ?_
            refine z_aload_n C 0 dX10_layer_102 rfl ?_
            refine z_get (v := .ref (ad (i + 2))) C (lt_A0 hN rfl) hay1 hcvy32 rfl inA_X10 1 (by decide) q_1460 rfl rfl dX10_layer_103 ?_
            refine z_iload_n C 1 dX10_layer_106 rfl ?_
            have hgy163 := up_n egy25 ha2 (ne_o (i := i) (c := 2) (d := 0) rfl)
            have hgy164 := (hfvy28 (i + 2) (ne_o (i := i) (c := 2) (d := 0) rfl)).trans hgy163
            have hgy165 := (hfvy32 (i + 2) (ne_o (i := i) (c := 2) (d := 0) rfl)).trans hgy164
            refine z_iald C (lt_A (c := 2) hN rfl) hay3 hgy165 (n) (by omega) (by omega) (by decide) dX10_layer_107 ?_
            obtain ⟨xy166, exy167, hxy168⟩ := zI_of (zI (st (n)))
            rw [exy167]
            have hgy169 := (hfvy28 (i + 1) (ne_o (i := i) (c := 1) (d := 0) rfl)).trans hgy27
            have hgy170 := (hfvy32 (i + 1) (ne_o (i := i) (c := 1) (d := 0) rfl)).trans hgy169
            have hqy172 : qS r py30 := (((okA.at0 hA).1.1 n (by omega)).of (p2 := py30) (by omega)).q (by have hb9 := mBb (t := r 0 + x) (by omega); omega)
            have hmky173 := hqy172.1
            refine z_cV (As := [.int (zI (0)), .int (zI ((n : Int))), .int (zI (z1)), .int (zI (0)), .int (zI (xy166))]) (rest := []) (ci := 12) C (c_X10_burden l D A cs tt N ad _ i hN _ hcvy32 _ hgy170 0 n py30 hpy30 (by omega) (by omega) hqy172 (z1) (by omega) (0) (by omega) (xy166) (by omega)) (lt_A0 hN rfl) hay1 hcvy32 rfl rfl mv_yX10_burden q_1776 hd_yX10_burden (by decide) (Nat.le_of_ble_eq_true rfl) (by decide) dX10_layer_108 rfl (kI0 fun vy171 gvy171 hvy171 => ?_)
            obtain ⟨hvy171, hzvy171, rfl⟩ := hvy171
            have hFy174 : ∀ f, f ≠ 12 → Fvy32 f = F f := fun f n12 => ((hFvy32 f n12).trans ((hFvy28 f n12).trans ((uZ_n _ _ n12).trans rfl)))
            have hey175 : Fvy32 13 = F 13 := ((hFvy32 13 (by decide)).trans ((hFvy28 13 (by decide)).trans (fn rfl (by decide))))
            have hey176 : Fvy32 14 = F 14 := ((hFvy32 14 (by decide)).trans ((hFvy28 14 (by decide)).trans (fn rfl (by decide))))
            have hey177 : Fvy32 15 = F 15 := ((hFvy32 15 (by decide)).trans ((hFvy28 15 (by decide)).trans (fn rfl (by decide))))
            have hey178 : Fvy32 16 = F 16 := ((hFvy32 16 (by decide)).trans ((hFvy28 16 (by decide)).trans (fn rfl (by decide))))
            have hey179 : Fvy32 17 = F 17 := ((hFvy32 17 (by decide)).trans ((hFvy28 17 (by decide)).trans (fn rfl (by decide))))
            have hey180 : Fvy32 18 = F 18 := ((hFvy32 18 (by decide)).trans ((hFvy28 18 (by decide)).trans (fn rfl (by decide))))
            have hey181 : Fvy32 19 = F 19 := ((hFvy32 19 (by decide)).trans ((hFvy28 19 (by decide)).trans (fn rfl (by decide))))
            have hey182 : Fvy32 20 = F 20 := ((hFvy32 20 (by decide)).trans ((hFvy28 20 (by decide)).trans (fn rfl (by decide))))
            have hey183 : Fvy32 21 = F 21 := ((hFvy32 21 (by decide)).trans ((hFvy28 21 (by decide)).trans (fn rfl (by decide))))
            have hey184 : Fvy32 23 = F 23 := ((hFvy32 23 (by decide)).trans ((hFvy28 23 (by decide)).trans (fn rfl (by decide))))
            have hey185 : Fvy32 25 = F 25 := ((hFvy32 25 (by decide)).trans ((hFvy28 25 (by decide)).trans (fn rfl (by decide))))
            have hey186 : Fvy32 27 = F 27 := ((hFvy32 27 (by decide)).trans ((hFvy28 27 (by decide)).trans (fn rfl (by decide))))
            have hey187 : Fvy32 28 = F 28 := ((hFvy32 28 (by decide)).trans ((hFvy28 28 (by decide)).trans (fn rfl (by decide))))
            have hey188 : Fvy32 29 = F 29 := ((hFvy32 29 (by decide)).trans ((hFvy28 29 (by decide)).trans (fn rfl (by decide))))
            have hKy189 : okF Fvy32 := okF.mv hM.2.1 hey175 hey176 hey177 hey178 hey179 hey180 hey181 hey182 hey183 hey184 hey185 hey186 hey187 hey188
            have hMy190 : okMr cs ad gvy32 i (x + 1) Fvy32 r st op ai fa mu tb tp := okMr.upd hM hcvy32 hKy189 (fun f a => hFy174 f (by omega)) hgy170 (hA.mono (by omega)) (fun j a b => by
                exact Or.inl (by rw [hfvy32 _ (by omega)]; rw [hfvy28 _ (by omega)]; rw [egy25, va_up_ne _ _ (by omega)]))
            have hkpy191 : Fvy32 13 = F 13 := ((hFvy32 13 (by decide)).trans ((hFvy28 13 (by decide)).trans (fn rfl (by decide))))
            have hkpy192 : Fvy32 14 = F 14 := ((hFvy32 14 (by decide)).trans ((hFvy28 14 (by decide)).trans (fn rfl (by decide))))
            have hkpy193 : Fvy32 17 = F 17 := ((hFvy32 17 (by decide)).trans ((hFvy28 17 (by decide)).trans (fn rfl (by decide))))
            have hkpy194 : Fvy32 20 = F 20 := ((hFvy32 20 (by decide)).trans ((hFvy28 20 (by decide)).trans (fn rfl (by decide))))
            have hkpy195 : Fvy32 21 = F 21 := ((hFvy32 21 (by decide)).trans ((hFvy28 21 (by decide)).trans (fn rfl (by decide))))
            have hkpy196 : Fvy32 23 = F 23 := ((hFvy32 23 (by decide)).trans ((hFvy28 23 (by decide)).trans (fn rfl (by decide))))
            have hkpy197 : Fvy32 24 = F 24 := ((hFvy32 24 (by decide)).trans ((hFvy28 24 (by decide)).trans (fn rfl (by decide))))
            exact z_iret C hr hlk dX10_layer_111 (by decide) (by decide) ⟨vy171, rfl, rfl, rfl, by omega, ⟨_, _, hMy190, ⟨hkpy191, hkpy192, hkpy193, hkpy194, hkpy195, hkpy196, hkpy197⟩⟩, fun j j1 => by rw [hfvy32 _ (by omega)]; rw [hfvy28 _ (by omega)]; rw [egy25, va_up_ne _ _ (by omega)]⟩
          · refine z_tin (off := 80) (tgt := 112) C dX10_layer_32 (by omega) (by omega) (by omega) rfl (by decide) ?_
            refine z_aload_n C 0 dX10_layer_112 rfl ?_
            refine z_iconst (z := 0) C dX10_layer_113 rfl ?_
            refine z_iload_n C 1 dX10_layer_114 rfl ?_
            refine z_iload_n C 2 dX10_layer_115 rfl ?_
            refine z_iconst (z := 0) C dX10_layer_116 rfl ?_
            refine z_aload_n C 0 dX10_layer_117 rfl ?_
            refine z_get (v := .ref (ad (i + 2))) C (lt_A0 hN rfl) hay1 hcvy32 rfl inA_X10 1 (by decide) q_1460 rfl rfl dX10_layer_118 ?_
            refine z_iload_n C 1 dX10_layer_121 rfl ?_
            have hgy198 := up_n egy25 ha2 (ne_o (i := i) (c := 2) (d := 0) rfl)
            have hgy199 := (hfvy28 (i + 2) (ne_o (i := i) (c := 2) (d := 0) rfl)).trans hgy198
            have hgy200 := (hfvy32 (i + 2) (ne_o (i := i) (c := 2) (d := 0) rfl)).trans hgy199
            refine z_iald C (lt_A (c := 2) hN rfl) hay3 hgy200 (n) (by omega) (by omega) (by decide) dX10_layer_122 ?_
            obtain ⟨xy201, exy202, hxy203⟩ := zI_of (zI (st (n)))
            rw [exy202]
            have hgy204 := (hfvy28 (i + 1) (ne_o (i := i) (c := 1) (d := 0) rfl)).trans hgy27
            have hgy205 := (hfvy32 (i + 1) (ne_o (i := i) (c := 1) (d := 0) rfl)).trans hgy204
            have hgy207 := up_n egy25 ha7 (ne_o (i := i) (c := 7) (d := 0) rfl)
            have hgy208 := (hfvy28 (i + 7) (ne_o (i := i) (c := 7) (d := 0) rfl)).trans hgy207
            have hgy209 := (hfvy32 (i + 7) (ne_o (i := i) (c := 7) (d := 0) rfl)).trans hgy208
            have hqy210 : qS r py30 := (((okA.at0 hA).1.1 n (by omega)).of (p2 := py30) (by omega)).q (by have hb9 := mBb (t := r 0 + x) (by omega); omega)
            have hmky211 := hqy210.1
            refine z_cV (As := [.int (zI (0)), .int (zI ((n : Int))), .int (zI (z1)), .int (zI (0)), .int (zI (xy201))]) (rest := []) (ci := 12) C (c_X10_ratio l D A cs tt N ad _ i hN _ hcvy32 _ hgy205 _ hgy209 0 n py30 hpy30 (by omega) (by omega) hqy210 (z1) (by omega) (0) (by omega) (xy201) (by omega)) (lt_A0 hN rfl) hay1 hcvy32 rfl rfl mv_yX10_ratio q_1772 hd_yX10_ratio (by decide) (Nat.le_of_ble_eq_true rfl) (by decide) dX10_layer_123 rfl (kI0 fun vy206 gvy206 hvy206 => ?_)
            obtain ⟨hvy206, hzvy206, rfl⟩ := hvy206
            have hFy212 : ∀ f, f ≠ 12 → Fvy32 f = F f := fun f n12 => ((hFvy32 f n12).trans ((hFvy28 f n12).trans ((uZ_n _ _ n12).trans rfl)))
            have hey213 : Fvy32 13 = F 13 := ((hFvy32 13 (by decide)).trans ((hFvy28 13 (by decide)).trans (fn rfl (by decide))))
            have hey214 : Fvy32 14 = F 14 := ((hFvy32 14 (by decide)).trans ((hFvy28 14 (by decide)).trans (fn rfl (by decide))))
            have hey215 : Fvy32 15 = F 15 := ((hFvy32 15 (by decide)).trans ((hFvy28 15 (by decide)).trans (fn rfl (by decide))))
            have hey216 : Fvy32 16 = F 16 := ((hFvy32 16 (by decide)).trans ((hFvy28 16 (by decide)).trans (fn rfl (by decide))))
            have hey217 : Fvy32 17 = F 17 := ((hFvy32 17 (by decide)).trans ((hFvy28 17 (by decide)).trans (fn rfl (by decide))))
            have hey218 : Fvy32 18 = F 18 := ((hFvy32 18 (by decide)).trans ((hFvy28 18 (by decide)).trans (fn rfl (by decide))))
            have hey219 : Fvy32 19 = F 19 := ((hFvy32 19 (by decide)).trans ((hFvy28 19 (by decide)).trans (fn rfl (by decide))))
            have hey220 : Fvy32 20 = F 20 := ((hFvy32 20 (by decide)).trans ((hFvy28 20 (by decide)).trans (fn rfl (by decide))))
            have hey221 : Fvy32 21 = F 21 := ((hFvy32 21 (by decide)).trans ((hFvy28 21 (by decide)).trans (fn rfl (by decide))))
            have hey222 : Fvy32 23 = F 23 := ((hFvy32 23 (by decide)).trans ((hFvy28 23 (by decide)).trans (fn rfl (by decide))))
            have hey223 : Fvy32 25 = F 25 := ((hFvy32 25 (by decide)).trans ((hFvy28 25 (by decide)).trans (fn rfl (by decide))))
            have hey224 : Fvy32 27 = F 27 := ((hFvy32 27 (by decide)).trans ((hFvy28 27 (by decide)).trans (fn rfl (by decide))))
            have hey225 : Fvy32 28 = F 28 := ((hFvy32 28 (by decide)).trans ((hFvy28 28 (by decide)).trans (fn rfl (by decide))))
            have hey226 : Fvy32 29 = F 29 := ((hFvy32 29 (by decide)).trans ((hFvy28 29 (by decide)).trans (fn rfl (by decide))))
            have hKy227 : okF Fvy32 := okF.mv hM.2.1 hey213 hey214 hey215 hey216 hey217 hey218 hey219 hey220 hey221 hey222 hey223 hey224 hey225 hey226
            have hMy228 : okMr cs ad gvy32 i (x + 1) Fvy32 r st op ai fa mu tb tp := okMr.upd hM hcvy32 hKy227 (fun f a => hFy212 f (by omega)) hgy205 (hA.mono (by omega)) (fun j a b => by
                exact Or.inl (by rw [hfvy32 _ (by omega)]; rw [hfvy28 _ (by omega)]; rw [egy25, va_up_ne _ _ (by omega)]))
            have hkpy229 : Fvy32 13 = F 13 := ((hFvy32 13 (by decide)).trans ((hFvy28 13 (by decide)).trans (fn rfl (by decide))))
            have hkpy230 : Fvy32 14 = F 14 := ((hFvy32 14 (by decide)).trans ((hFvy28 14 (by decide)).trans (fn rfl (by decide))))
            have hkpy231 : Fvy32 17 = F 17 := ((hFvy32 17 (by decide)).trans ((hFvy28 17 (by decide)).trans (fn rfl (by decide))))
            have hkpy232 : Fvy32 20 = F 20 := ((hFvy32 20 (by decide)).trans ((hFvy28 20 (by decide)).trans (fn rfl (by decide))))
            have hkpy233 : Fvy32 21 = F 21 := ((hFvy32 21 (by decide)).trans ((hFvy28 21 (by decide)).trans (fn rfl (by decide))))
            have hkpy234 : Fvy32 23 = F 23 := ((hFvy32 23 (by decide)).trans ((hFvy28 23 (by decide)).trans (fn rfl (by decide))))
            have hkpy235 : Fvy32 24 = F 24 := ((hFvy32 24 (by decide)).trans ((hFvy28 24 (by decide)).trans (fn rfl (by decide))))
            exact z_iret C hr hlk dX10_layer_126 (by decide) (by decide) ⟨vy206, rfl, rfl, rfl, by omega, ⟨_, _, hMy228, ⟨hkpy229, hkpy230, hkpy231, hkpy232, hkpy233, hkpy234, hkpy235⟩⟩, fun j j1 => by rw [hfvy32 _ (by omega)]; rw [hfvy28 _ (by omega)]; rw [egy25, va_up_ne _ _ (by omega)]⟩
      · refine z_if_ne (tgt := 31) C dX10_layer_26 (by decide) (by omega) (fun h => absurd h (by omega)) (fun _ => ?_)
        refine z_iconst (z := 0) C dX10_layer_29 rfl ?_
        have hgy236 := (hfvy28 (i + 1) (ne_o (i := i) (c := 1) (d := 0) rfl)).trans hgy27
        have hgy237 := (hfvy32 (i + 1) (ne_o (i := i) (c := 1) (d := 0) rfl)).trans hgy236
        have hFy238 : ∀ f, f ≠ 12 → Fvy32 f = F f := fun f n12 => ((hFvy32 f n12).trans ((hFvy28 f n12).trans ((uZ_n _ _ n12).trans rfl)))
        have hey239 : Fvy32 13 = F 13 := ((hFvy32 13 (by decide)).trans ((hFvy28 13 (by decide)).trans (fn rfl (by decide))))
        have hey240 : Fvy32 14 = F 14 := ((hFvy32 14 (by decide)).trans ((hFvy28 14 (by decide)).trans (fn rfl (by decide))))
        have hey241 : Fvy32 15 = F 15 := ((hFvy32 15 (by decide)).trans ((hFvy28 15 (by decide)).trans (fn rfl (by decide))))
        have hey242 : Fvy32 16 = F 16 := ((hFvy32 16 (by decide)).trans ((hFvy28 16 (by decide)).trans (fn rfl (by decide))))
        have hey243 : Fvy32 17 = F 17 := ((hFvy32 17 (by decide)).trans ((hFvy28 17 (by decide)).trans (fn rfl (by decide))))
        have hey244 : Fvy32 18 = F 18 := ((hFvy32 18 (by decide)).trans ((hFvy28 18 (by decide)).trans (fn rfl (by decide))))
        have hey245 : Fvy32 19 = F 19 := ((hFvy32 19 (by decide)).trans ((hFvy28 19 (by decide)).trans (fn rfl (by decide))))
        have hey246 : Fvy32 20 = F 20 := ((hFvy32 20 (by decide)).trans ((hFvy28 20 (by decide)).trans (fn rfl (by decide))))
        have hey247 : Fvy32 21 = F 21 := ((hFvy32 21 (by decide)).trans ((hFvy28 21 (by decide)).trans (fn rfl (by decide))))
        have hey248 : Fvy32 23 = F 23 := ((hFvy32 23 (by decide)).trans ((hFvy28 23 (by decide)).trans (fn rfl (by decide))))
        have hey249 : Fvy32 25 = F 25 := ((hFvy32 25 (by decide)).trans ((hFvy28 25 (by decide)).trans (fn rfl (by decide))))
        have hey250 : Fvy32 27 = F 27 := ((hFvy32 27 (by decide)).trans ((hFvy28 27 (by decide)).trans (fn rfl (by decide))))
        have hey251 : Fvy32 28 = F 28 := ((hFvy32 28 (by decide)).trans ((hFvy28 28 (by decide)).trans (fn rfl (by decide))))
        have hey252 : Fvy32 29 = F 29 := ((hFvy32 29 (by decide)).trans ((hFvy28 29 (by decide)).trans (fn rfl (by decide))))
        have hKy253 : okF Fvy32 := okF.mv hM.2.1 hey239 hey240 hey241 hey242 hey243 hey244 hey245 hey246 hey247 hey248 hey249 hey250 hey251 hey252
        have hMy254 : okMr cs ad gvy32 i (x + 1) Fvy32 r st op ai fa mu tb tp := okMr.upd hM hcvy32 hKy253 (fun f a => hFy238 f (by omega)) hgy237 (hA.mono (by omega)) (fun j a b => by
            exact Or.inl (by rw [hfvy32 _ (by omega)]; rw [hfvy28 _ (by omega)]; rw [egy25, va_up_ne _ _ (by omega)]))
        have hkpy255 : Fvy32 13 = F 13 := ((hFvy32 13 (by decide)).trans ((hFvy28 13 (by decide)).trans (fn rfl (by decide))))
        have hkpy256 : Fvy32 14 = F 14 := ((hFvy32 14 (by decide)).trans ((hFvy28 14 (by decide)).trans (fn rfl (by decide))))
        have hkpy257 : Fvy32 17 = F 17 := ((hFvy32 17 (by decide)).trans ((hFvy28 17 (by decide)).trans (fn rfl (by decide))))
        have hkpy258 : Fvy32 20 = F 20 := ((hFvy32 20 (by decide)).trans ((hFvy28 20 (by decide)).trans (fn rfl (by decide))))
        have hkpy259 : Fvy32 21 = F 21 := ((hFvy32 21 (by decide)).trans ((hFvy28 21 (by decide)).trans (fn rfl (by decide))))
        have hkpy260 : Fvy32 23 = F 23 := ((hFvy32 23 (by decide)).trans ((hFvy28 23 (by decide)).trans (fn rfl (by decide))))
        have hkpy261 : Fvy32 24 = F 24 := ((hFvy32 24 (by decide)).trans ((hFvy28 24 (by decide)).trans (fn rfl (by decide))))
        exact z_iret C hr hlk dX10_layer_30 (by decide) (by decide) ⟨0, rfl, rfl, rfl, by omega, ⟨_, _, hMy254, ⟨hkpy255, hkpy256, hkpy257, hkpy258, hkpy259, hkpy260, hkpy261⟩⟩, fun j j1 => by rw [hfvy32 _ (by omega)]; rw [hfvy28 _ (by omega)]; rw [egy25, va_up_ne _ _ (by omega)]⟩
    · refine z_iconst (z := 1) C dX10_layer_22 rfl ?_
      have hey263 : Fvy28 12 = Fvy28 12 := rfl
      refine z_cV (As := [.int (zI (0)), .int (zI (1))]) (rest := []) (ci := 12) C (c_X10_right l D A cs tt N ad _ i hN _ hcvy28 (by omega) (0) (by omega) (1) (by omega)) (lt_A0 hN rfl) hay1 hcvy28 rfl rfl mv_yX10_right q_1648 hd_yX10_right (by decide) (Nat.le_of_ble_eq_true rfl) (by decide) dX10_layer_23 rfl (kI0 fun vy262 gvy262 hvy262 => ?_)
      obtain ⟨hrvy262, ⟨Fvy262, hcvy262, htvy262, hFvy262⟩, hfvy262⟩ := hvy262
      obtain rfl : vy262 = 0 := by omega
      refine z_if_ne (tgt := 31) C dX10_layer_26 (by decide) (by omega) (fun h => absurd h (by omega)) (fun _ => ?_)
      refine z_iconst (z := 0) C dX10_layer_29 rfl ?_
      have hgy264 := (hfvy28 (i + 1) (ne_o (i := i) (c := 1) (d := 0) rfl)).trans hgy27
      have hgy265 := (hfvy262 (i + 1) (ne_o (i := i) (c := 1) (d := 0) rfl)).trans hgy264
      have hFy266 : ∀ f, f ≠ 12 → Fvy262 f = F f := fun f n12 => ((hFvy262 f n12).trans ((hFvy28 f n12).trans ((uZ_n _ _ n12).trans rfl)))
      have hey267 : Fvy262 13 = F 13 := ((hFvy262 13 (by decide)).trans ((hFvy28 13 (by decide)).trans (fn rfl (by decide))))
      have hey268 : Fvy262 14 = F 14 := ((hFvy262 14 (by decide)).trans ((hFvy28 14 (by decide)).trans (fn rfl (by decide))))
      have hey269 : Fvy262 15 = F 15 := ((hFvy262 15 (by decide)).trans ((hFvy28 15 (by decide)).trans (fn rfl (by decide))))
      have hey270 : Fvy262 16 = F 16 := ((hFvy262 16 (by decide)).trans ((hFvy28 16 (by decide)).trans (fn rfl (by decide))))
      have hey271 : Fvy262 17 = F 17 := ((hFvy262 17 (by decide)).trans ((hFvy28 17 (by decide)).trans (fn rfl (by decide))))
      have hey272 : Fvy262 18 = F 18 := ((hFvy262 18 (by decide)).trans ((hFvy28 18 (by decide)).trans (fn rfl (by decide))))
      have hey273 : Fvy262 19 = F 19 := ((hFvy262 19 (by decide)).trans ((hFvy28 19 (by decide)).trans (fn rfl (by decide))))
      have hey274 : Fvy262 20 = F 20 := ((hFvy262 20 (by decide)).trans ((hFvy28 20 (by decide)).trans (fn rfl (by decide))))
      have hey275 : Fvy262 21 = F 21 := ((hFvy262 21 (by decide)).trans ((hFvy28 21 (by decide)).trans (fn rfl (by decide))))
      have hey276 : Fvy262 23 = F 23 := ((hFvy262 23 (by decide)).trans ((hFvy28 23 (by decide)).trans (fn rfl (by decide))))
      have hey277 : Fvy262 25 = F 25 := ((hFvy262 25 (by decide)).trans ((hFvy28 25 (by decide)).trans (fn rfl (by decide))))
      have hey278 : Fvy262 27 = F 27 := ((hFvy262 27 (by decide)).trans ((hFvy28 27 (by decide)).trans (fn rfl (by decide))))
      have hey279 : Fvy262 28 = F 28 := ((hFvy262 28 (by decide)).trans ((hFvy28 28 (by decide)).trans (fn rfl (by decide))))
      have hey280 : Fvy262 29 = F 29 := ((hFvy262 29 (by decide)).trans ((hFvy28 29 (by decide)).trans (fn rfl (by decide))))
      have hKy281 : okF Fvy262 := okF.mv hM.2.1 hey267 hey268 hey269 hey270 hey271 hey272 hey273 hey274 hey275 hey276 hey277 hey278 hey279 hey280
      have hMy282 : okMr cs ad gvy262 i (x + 1) Fvy262 r st op ai fa mu tb tp := okMr.upd hM hcvy262 hKy281 (fun f a => hFy266 f (by omega)) hgy265 (hA.mono (by omega)) (fun j a b => by
          exact Or.inl (by rw [hfvy262 _ (by omega)]; rw [hfvy28 _ (by omega)]; rw [egy25, va_up_ne _ _ (by omega)]))
      have hkpy283 : Fvy262 13 = F 13 := ((hFvy262 13 (by decide)).trans ((hFvy28 13 (by decide)).trans (fn rfl (by decide))))
      have hkpy284 : Fvy262 14 = F 14 := ((hFvy262 14 (by decide)).trans ((hFvy28 14 (by decide)).trans (fn rfl (by decide))))
      have hkpy285 : Fvy262 17 = F 17 := ((hFvy262 17 (by decide)).trans ((hFvy28 17 (by decide)).trans (fn rfl (by decide))))
      have hkpy286 : Fvy262 20 = F 20 := ((hFvy262 20 (by decide)).trans ((hFvy28 20 (by decide)).trans (fn rfl (by decide))))
      have hkpy287 : Fvy262 21 = F 21 := ((hFvy262 21 (by decide)).trans ((hFvy28 21 (by decide)).trans (fn rfl (by decide))))
      have hkpy288 : Fvy262 23 = F 23 := ((hFvy262 23 (by decide)).trans ((hFvy28 23 (by decide)).trans (fn rfl (by decide))))
      have hkpy289 : Fvy262 24 = F 24 := ((hFvy262 24 (by decide)).trans ((hFvy28 24 (by decide)).trans (fn rfl (by decide))))
      exact z_iret C hr hlk dX10_layer_30 (by decide) (by decide) ⟨0, rfl, rfl, rfl, by omega, ⟨_, _, hMy282, ⟨hkpy283, hkpy284, hkpy285, hkpy286, hkpy287, hkpy288, hkpy289⟩⟩, fun j j1 => by rw [hfvy262 _ (by omega)]; rw [hfvy28 _ (by omega)]; rw [egy25, va_up_ne _ _ (by omega)]⟩
  · refine z_if_eq (tgt := 29) C dX10_layer_11 (by decide) (by omega) (fun _ => ?_) (fun h => absurd h (by omega))
    refine z_iconst (z := 0) C dX10_layer_29 rfl ?_
    have hgy290 := (hfvy28 (i + 1) (ne_o (i := i) (c := 1) (d := 0) rfl)).trans hgy27
    have hFy291 : ∀ f, f ≠ 12 → Fvy28 f = F f := fun f n12 => ((hFvy28 f n12).trans ((uZ_n _ _ n12).trans rfl))
    have hey292 : Fvy28 13 = F 13 := ((hFvy28 13 (by decide)).trans (fn rfl (by decide)))
    have hey293 : Fvy28 14 = F 14 := ((hFvy28 14 (by decide)).trans (fn rfl (by decide)))
    have hey294 : Fvy28 15 = F 15 := ((hFvy28 15 (by decide)).trans (fn rfl (by decide)))
    have hey295 : Fvy28 16 = F 16 := ((hFvy28 16 (by decide)).trans (fn rfl (by decide)))
    have hey296 : Fvy28 17 = F 17 := ((hFvy28 17 (by decide)).trans (fn rfl (by decide)))
    have hey297 : Fvy28 18 = F 18 := ((hFvy28 18 (by decide)).trans (fn rfl (by decide)))
    have hey298 : Fvy28 19 = F 19 := ((hFvy28 19 (by decide)).trans (fn rfl (by decide)))
    have hey299 : Fvy28 20 = F 20 := ((hFvy28 20 (by decide)).trans (fn rfl (by decide)))
    have hey300 : Fvy28 21 = F 21 := ((hFvy28 21 (by decide)).trans (fn rfl (by decide)))
    have hey301 : Fvy28 23 = F 23 := ((hFvy28 23 (by decide)).trans (fn rfl (by decide)))
    have hey302 : Fvy28 25 = F 25 := ((hFvy28 25 (by decide)).trans (fn rfl (by decide)))
    have hey303 : Fvy28 27 = F 27 := ((hFvy28 27 (by decide)).trans (fn rfl (by decide)))
    have hey304 : Fvy28 28 = F 28 := ((hFvy28 28 (by decide)).trans (fn rfl (by decide)))
    have hey305 : Fvy28 29 = F 29 := ((hFvy28 29 (by decide)).trans (fn rfl (by decide)))
    have hKy306 : okF Fvy28 := okF.mv hM.2.1 hey292 hey293 hey294 hey295 hey296 hey297 hey298 hey299 hey300 hey301 hey302 hey303 hey304 hey305
    have hMy307 : okMr cs ad gvy28 i (x + 1) Fvy28 r st op ai fa mu tb tp := okMr.upd hM hcvy28 hKy306 (fun f a => hFy291 f (by omega)) hgy290 (hA.mono (by omega)) (fun j a b => by
        exact Or.inl (by rw [hfvy28 _ (by omega)]; rw [egy25, va_up_ne _ _ (by omega)]))
    have hkpy308 : Fvy28 13 = F 13 := ((hFvy28 13 (by decide)).trans (fn rfl (by decide)))
    have hkpy309 : Fvy28 14 = F 14 := ((hFvy28 14 (by decide)).trans (fn rfl (by decide)))
    have hkpy310 : Fvy28 17 = F 17 := ((hFvy28 17 (by decide)).trans (fn rfl (by decide)))
    have hkpy311 : Fvy28 20 = F 20 := ((hFvy28 20 (by decide)).trans (fn rfl (by decide)))
    have hkpy312 : Fvy28 21 = F 21 := ((hFvy28 21 (by decide)).trans (fn rfl (by decide)))
    have hkpy313 : Fvy28 23 = F 23 := ((hFvy28 23 (by decide)).trans (fn rfl (by decide)))
    have hkpy314 : Fvy28 24 = F 24 := ((hFvy28 24 (by decide)).trans (fn rfl (by decide)))
    exact z_iret C hr hlk dX10_layer_30 (by decide) (by decide) ⟨0, rfl, rfl, rfl, by omega, ⟨_, _, hMy307, ⟨hkpy308, hkpy309, hkpy310, hkpy311, hkpy312, hkpy313, hkpy314⟩⟩, fun j j1 => by rw [hfvy28 _ (by omega)]; rw [egy25, va_up_ne _ _ (by omega)]⟩

set_option maxRecDepth 100000 in
set_option maxHeartbeats 4000000 in
theorem c_X10_layer_b (l : Launch) (D : va_G) (A : Nat → Prop) (cs : Nat → ClassId) (tt : Nat) (N : Nat) (ad : Nat → Nat) (g : Nat → va_E) (i : Nat) (hN : i + 30 ≤ N) (x : Int) (hx : 0 ≤ x ∧ x ≤ 512) (F r : Nat → Int) {st op ai fa mu tb tp : Nat → Int} (hM : okMr cs ad g i x F r st op ai fa mu tb tp) (z : Int) (hz : -2147483648 ≤ z ∧ z ≤ 2147483647) (hzo : z < 0 ∨ 3 < z) (z1 : Int) (hz1 : -2147483648 ≤ z1 ∧ z1 ≤ 2147483647) (z2 : Int) (hz2 : -2147483648 ≤ z2 ∧ z2 ≤ 2147483647) : zM l yX10_layer cX10_layer 4 (some .int) ({ frames := 7, cells := 0, slots := 0, locals := 420 } : Room) D A cs tt N ad g [.ref (ad i), .int (zI (z)), .int (zI (z1)), .int (zI (z2))] (rI0 N ad fun q g' => (-2147483648 ≤ q ∧ q ≤ 2147483647) ∧ (∃ F' r' : Nat → Int, okMr cs ad g' i (x + 1) F' r' st op ai fa mu tb tp ∧ (F' 13 = F 13 ∧ F' 14 = F 14 ∧ F' 17 = F 17 ∧ F' 20 = F 20 ∧ F' 21 = F 21 ∧ F' 23 = F 23 ∧ F' 24 = F 24)) ∧ ∀ j, j < i ∨ i + 30 ≤ j → g' j = g j) := by
  obtain ⟨hg, ⟨⟨e13, e14, e25, e27, e29⟩, k15, k16, k17, k18, k19, k20, k23, k21⟩, hRD, hTx, hA, ns, nh, nd, rf, pi, te, ki, li, ok1, ok2, fo, dd, dps, ⟨ha1, ha2, ha3, ha4, ha5, ha6, ha7, ha8, ha9, ha10, ha11, ha12, ha13, ha14, ha15, ha24, ha25, ha26, ha27, ha28, ha29⟩, hEv, hPt, hns, htp⟩ := id hM
  obtain ⟨-, hop, hai, hfa, hT, hT1⟩ := id hEv
  have hay1 : zAt ad (i) (ad i) := rfl
  have hay2 : zAt ad (i + 1) (ad (i + 1)) := rfl
  have hay3 : zAt ad (i + 2) (ad (i + 2)) := rfl
  have hay4 : zAt ad (i + 3) (ad (i + 3)) := rfl
  have hay5 : zAt ad (i + 4) (ad (i + 4)) := rfl
  have hay6 : zAt ad (i + 5) (ad (i + 5)) := rfl
  have hay7 : zAt ad (i + 6) (ad (i + 6)) := rfl
  have hay8 : zAt ad (i + 7) (ad (i + 7)) := rfl
  have hay9 : zAt ad (i + 8) (ad (i + 8)) := rfl
  have hay10 : zAt ad (i + 9) (ad (i + 9)) := rfl
  have hay11 : zAt ad (i + 10) (ad (i + 10)) := rfl
  have hay12 : zAt ad (i + 11) (ad (i + 11)) := rfl
  have hay13 : zAt ad (i + 12) (ad (i + 12)) := rfl
  have hay14 : zAt ad (i + 13) (ad (i + 13)) := rfl
  have hay15 : zAt ad (i + 14) (ad (i + 14)) := rfl
  have hay16 : zAt ad (i + 15) (ad (i + 15)) := rfl
  have hay17 : zAt ad (i + 24) (ad (i + 24)) := rfl
  have hay18 : zAt ad (i + 25) (ad (i + 25)) := rfl
  have hay19 : zAt ad (i + 26) (ad (i + 26)) := rfl
  have hay20 : zAt ad (i + 27) (ad (i + 27)) := rfl
  have hay21 : zAt ad (i + 28) (ad (i + 28)) := rfl
  have hay22 : zAt ad (i + 29) (ad (i + 29)) := rfl
  obtain ⟨⟨hsyy23, htyy23, hnyy23, hpyy23⟩, hlyy23⟩ := okA.at0 hA
  simp only [Nat.zero_add] at hsyy23 hnyy23 hpyy23
  have hmn : ∀ s, s < 4 → 0 ≤ r (6 + 86 * s) ∧ r (6 + 86 * s) ≤ 12 := fun s hs => (hsyy23 s hs).1
  have h5 : 0 ≤ r 5 ∧ r 5 ≤ 6 := hpyy23
  refine z_of (by decide) (Nat.le_of_ble_eq_true rfl) ?_
  intro pZ eZ sZ mZ below meth cZ C hr hlk hnm
  refine z_lv (lv' := [(0, .ref (ad i)), (1, .int (zI (z))), (2, .int (zI (z1))), (3, .int (zI (z2)))]) [0, 1, 2, 3] rfl ?_
  refine z_aload_n C 0 dX10_layer_0 rfl ?_
  refine z_iconst (z := 0) C dX10_layer_1 rfl ?_
  refine z_put (fs' := mF ad (i) (uZ F 12 (0))) C (lt_A0 hN rfl) hay1 hg tyX10 tyX10_ok nmX10 rfl inA_X10 12 (by decide) q_1471 rfl rfl rfl rfl (Nat.le_of_ble_eq_true rfl) rfl dX10_layer_2 (fun gy24 egy25 => ?_)
  have hgy26 := up_s egy25
  refine z_aload_n C 0 dX10_layer_5 rfl ?_
  refine z_iload_n C 1 dX10_layer_6 rfl ?_
  refine z_iload_n C 2 dX10_layer_7 rfl ?_
  have hgy27 := up_n egy25 ha1 (ne_o (i := i) (c := 1) (d := 0) rfl)
  have h13vy28 : (uZ F 12 (0)) 13 = F 13 := (fn rfl (by decide))
  have hey29 : (uZ F 12 (0)) 12 = 0 := (uZ_s _ _ _)
  refine z_cV (As := [.int (zI (z)), .int (zI (z1))]) (rest := []) (ci := 12) C (c_X10_isLayer_b l D A cs tt N ad _ i hN _ hgy26 (by omega) (by omega) (z) (by omega) (by omega) (z1)) (lt_A0 hN rfl) hay1 hgy26 rfl rfl mv_yX10_isLayer q_1819 hd_yX10_isLayer (by decide) (Nat.le_of_ble_eq_true rfl) (by decide) dX10_layer_8 rfl (kI0 fun vy28 gvy28 hvy28 => ?_)
  obtain ⟨rfl, ⟨Fvy28, hcvy28, htvy28, hFvy28⟩, hfvy28⟩ := hvy28
  refine z_if_eq (tgt := 29) C dX10_layer_11 (by decide) (by omega) (fun _ => ?_) (fun h => absurd h (by omega))
  refine z_iconst (z := 0) C dX10_layer_29 rfl ?_
  have hgy30 := (hfvy28 (i + 1) (ne_o (i := i) (c := 1) (d := 0) rfl)).trans hgy27
  have hFy31 : ∀ f, f ≠ 12 → Fvy28 f = F f := fun f n12 => ((hFvy28 f n12).trans ((uZ_n _ _ n12).trans rfl))
  have hey32 : Fvy28 13 = F 13 := ((hFvy28 13 (by decide)).trans (fn rfl (by decide)))
  have hey33 : Fvy28 14 = F 14 := ((hFvy28 14 (by decide)).trans (fn rfl (by decide)))
  have hey34 : Fvy28 15 = F 15 := ((hFvy28 15 (by decide)).trans (fn rfl (by decide)))
  have hey35 : Fvy28 16 = F 16 := ((hFvy28 16 (by decide)).trans (fn rfl (by decide)))
  have hey36 : Fvy28 17 = F 17 := ((hFvy28 17 (by decide)).trans (fn rfl (by decide)))
  have hey37 : Fvy28 18 = F 18 := ((hFvy28 18 (by decide)).trans (fn rfl (by decide)))
  have hey38 : Fvy28 19 = F 19 := ((hFvy28 19 (by decide)).trans (fn rfl (by decide)))
  have hey39 : Fvy28 20 = F 20 := ((hFvy28 20 (by decide)).trans (fn rfl (by decide)))
  have hey40 : Fvy28 21 = F 21 := ((hFvy28 21 (by decide)).trans (fn rfl (by decide)))
  have hey41 : Fvy28 23 = F 23 := ((hFvy28 23 (by decide)).trans (fn rfl (by decide)))
  have hey42 : Fvy28 25 = F 25 := ((hFvy28 25 (by decide)).trans (fn rfl (by decide)))
  have hey43 : Fvy28 27 = F 27 := ((hFvy28 27 (by decide)).trans (fn rfl (by decide)))
  have hey44 : Fvy28 28 = F 28 := ((hFvy28 28 (by decide)).trans (fn rfl (by decide)))
  have hey45 : Fvy28 29 = F 29 := ((hFvy28 29 (by decide)).trans (fn rfl (by decide)))
  have hKy46 : okF Fvy28 := okF.mv hM.2.1 hey32 hey33 hey34 hey35 hey36 hey37 hey38 hey39 hey40 hey41 hey42 hey43 hey44 hey45
  have hMy47 : okMr cs ad gvy28 i (x + 1) Fvy28 r st op ai fa mu tb tp := okMr.upd hM hcvy28 hKy46 (fun f a => hFy31 f (by omega)) hgy30 (hA.mono (by omega)) (fun j a b => by
      exact Or.inl (by rw [hfvy28 _ (by omega)]; rw [egy25, va_up_ne _ _ (by omega)]))
  have hkpy48 : Fvy28 13 = F 13 := ((hFvy28 13 (by decide)).trans (fn rfl (by decide)))
  have hkpy49 : Fvy28 14 = F 14 := ((hFvy28 14 (by decide)).trans (fn rfl (by decide)))
  have hkpy50 : Fvy28 17 = F 17 := ((hFvy28 17 (by decide)).trans (fn rfl (by decide)))
  have hkpy51 : Fvy28 20 = F 20 := ((hFvy28 20 (by decide)).trans (fn rfl (by decide)))
  have hkpy52 : Fvy28 21 = F 21 := ((hFvy28 21 (by decide)).trans (fn rfl (by decide)))
  have hkpy53 : Fvy28 23 = F 23 := ((hFvy28 23 (by decide)).trans (fn rfl (by decide)))
  have hkpy54 : Fvy28 24 = F 24 := ((hFvy28 24 (by decide)).trans (fn rfl (by decide)))
  exact z_iret C hr hlk dX10_layer_30 (by decide) (by decide) ⟨0, rfl, rfl, rfl, by omega, ⟨_, _, hMy47, ⟨hkpy48, hkpy49, hkpy50, hkpy51, hkpy52, hkpy53, hkpy54⟩⟩, fun j j1 => by rw [hfvy28 _ (by omega)]; rw [egy25, va_up_ne _ _ (by omega)]⟩

set_option maxRecDepth 100000 in
set_option maxHeartbeats 4000000 in
theorem c_X10_layer (l : Launch) (D : va_G) (A : Nat → Prop) (cs : Nat → ClassId) (tt : Nat) (N : Nat) (ad : Nat → Nat) (g : Nat → va_E) (i : Nat) (hN : i + 30 ≤ N) (x : Int) (hx : 0 ≤ x ∧ x ≤ 512) (F r : Nat → Int) {st op ai fa mu tb tp : Nat → Int} (hM : okMr cs ad g i x F r st op ai fa mu tb tp) (z : Int) (hz : -2147483648 ≤ z ∧ z ≤ 2147483647) (z1 : Int) (hz1 : -2147483648 ≤ z1 ∧ z1 ≤ 2147483647) (z2 : Int) (hz2 : -2147483648 ≤ z2 ∧ z2 ≤ 2147483647) : zM l yX10_layer cX10_layer 4 (some .int) ({ frames := 7, cells := 0, slots := 0, locals := 420 } : Room) D A cs tt N ad g [.ref (ad i), .int (zI (z)), .int (zI (z1)), .int (zI (z2))] (rI0 N ad fun q g' => (-2147483648 ≤ q ∧ q ≤ 2147483647) ∧ (∃ F' r' : Nat → Int, okMr cs ad g' i (x + 1) F' r' st op ai fa mu tb tp ∧ (F' 13 = F 13 ∧ F' 14 = F 14 ∧ F' 17 = F 17 ∧ F' 20 = F 20 ∧ F' 21 = F 21 ∧ F' 23 = F 23 ∧ F' 24 = F 24)) ∧ ∀ j, j < i ∨ i + 30 ≤ j → g' j = g j) := by
  by_cases h9 : 0 ≤ z ∧ z ≤ 3
  · obtain ⟨n, rfl⟩ : ∃ n : Nat, z = (n : Int) := ⟨z.toNat, by omega⟩
    exact c_X10_layer_a l D A cs tt N ad g i hN x hx F r hM n (by omega) z1 hz1 z2 hz2
  · exact c_X10_layer_b l D A cs tt N ad g i hN x hx F r hM z hz (by omega) z1 hz1 z2 hz2

