/-! ===== the reference's rows: a layer at q, a slope at p ===== -/
def ly (r : Nat → Int) (q : Nat) : Prop := (0 ≤ r q ∧ r q ≤ 4) ∧ 1 ≤ r (q + 1) ∧ 0 ≤ r (q + 2) ∧ 1 ≤ r (q + 3) ∧ (-300 ≤ r (q + 4) ∧ r (q + 4) ≤ 0) ∧ 0 ≤ r (q + 6) ∧ r (q + 6) ≤ 20000
def ms (r : Nat → Int) (p : Nat) : Nat → Int
  | 0 => 0
  | n + 1 => ms r p n + (r (p + 2 + 7 * n + 1) + r (p + 2 + 7 * n + 2))
def dp (r : Nat → Int) (p : Nat) : Nat → Int
  | 0 => 0
  | n + 1 => dp r p n + r (p + 2 + 7 * n + 3)
theorem ly.ext {r r' : Nat → Int} {q : Nat} (h : ∀ j, q ≤ j → j < q + 7 → r' j = r j) (hl : ly r q) : ly r' q := by
  unfold ly at *
  rw [h q (by omega) (by omega), h (q + 1) (by omega) (by omega), h (q + 2) (by omega) (by omega), h (q + 3) (by omega) (by omega), h (q + 4) (by omega) (by omega), h (q + 6) (by omega) (by omega)]
  exact hl
theorem ms_ext {r r' : Nat → Int} {p : Nat} : ∀ n : Nat, (∀ l, l < n → r' (p + 2 + 7 * l + 1) = r (p + 2 + 7 * l + 1) ∧ r' (p + 2 + 7 * l + 2) = r (p + 2 + 7 * l + 2)) → ms r' p n = ms r p n := by
  intro n
  induction n with
  | zero => intro _; rfl
  | succ n ih =>
    intro h
    show ms r' p n + _ = ms r p n + _
    rw [ih (fun l hl => h l (by omega)), (h n (by omega)).1, (h n (by omega)).2]
theorem dp_ext {r r' : Nat → Int} {p : Nat} : ∀ n : Nat, (∀ l, l < n → r' (p + 2 + 7 * l + 3) = r (p + 2 + 7 * l + 3)) → dp r' p n = dp r p n := by
  intro n
  induction n with
  | zero => intro _; rfl
  | succ n ih =>
    intro h
    show dp r' p n + _ = dp r p n + _
    rw [ih (fun l hl => h l (by omega)), h n (by omega)]
/-- one layer k changed -/
theorem ms_one {r r' : Nat → Int} {p k q : Nat} (hq : p + 2 + 7 * k = q) : ∀ n : Nat, k < n → (∀ l, l < n → l ≠ k → r' (p + 2 + 7 * l + 1) = r (p + 2 + 7 * l + 1) ∧ r' (p + 2 + 7 * l + 2) = r (p + 2 + 7 * l + 2)) → ms r' p n = ms r p n + (r' (q + 1) + r' (q + 2)) - (r (q + 1) + r (q + 2)) := by
  intro n
  subst hq
  induction n with
  | zero => intro h; omega
  | succ n ih =>
    intro hk h
    show ms r' p n + _ = ms r p n + _ + _ - _
    by_cases e : k = n
    · subst e
      rw [ms_ext k (fun l hl => h l (by omega) (by omega))]
      omega
    · rw [ih (by omega) (fun l hl h2 => h l (by omega) h2), (h n (by omega) (by omega)).1, (h n (by omega) (by omega)).2]
      omega
theorem dp_one {r r' : Nat → Int} {p k q : Nat} (hq : p + 2 + 7 * k = q) : ∀ n : Nat, k < n → (∀ l, l < n → l ≠ k → r' (p + 2 + 7 * l + 3) = r (p + 2 + 7 * l + 3)) → dp r' p n = dp r p n + r' (q + 3) - r (q + 3) := by
  intro n
  subst hq
  induction n with
  | zero => intro h; omega
  | succ n ih =>
    intro hk h
    show dp r' p n + _ = dp r p n + _ + _ - _
    by_cases e : k = n
    · subst e
      rw [dp_ext k (fun l hl => h l (by omega) (by omega))]
      omega
    · rw [ih (by omega) (fun l hl h2 => h l (by omega) h2), h n (by omega) (by omega)]
      omega
theorem ms_pos {r : Nat → Int} {p : Nat} : ∀ n : Nat, (∀ l, l < n → ly r (p + 2 + 7 * l)) → 0 ≤ ms r p n := by
  intro n
  induction n with
  | zero => intro _; exact Int.le_refl 0
  | succ n ih =>
    intro h
    have h1 := ih (fun l hl => h l (by omega))
    obtain ⟨_, h2, h3, _⟩ := h n (by omega)
    show 0 ≤ ms r p n + _
    omega
theorem ms_mono {r : Nat → Int} {p : Nat} {m : Nat} : ∀ n : Nat, m ≤ n → (∀ l, l < n → ly r (p + 2 + 7 * l)) → ms r p m ≤ ms r p n := by
  intro n
  induction n with
  | zero => intro h _; rw [show m = 0 by omega]; exact Int.le_refl _
  | succ n ih =>
    intro hm h
    by_cases e : m = n + 1
    · rw [e]; exact Int.le_refl _
    · have h1 := ih (by omega) (fun l hl => h l (by omega))
      obtain ⟨_, h2, h3, _⟩ := h n (by omega)
      show ms r p m ≤ ms r p n + _
      omega
theorem dp_pos {r : Nat → Int} {p : Nat} : ∀ n : Nat, (∀ l, l < n → ly r (p + 2 + 7 * l)) → 0 ≤ dp r p n := by
  intro n
  induction n with
  | zero => intro _; exact Int.le_refl 0
  | succ n ih =>
    intro h
    have h1 := ih (fun l hl => h l (by omega))
    obtain ⟨_, _, _, h2, _⟩ := h n (by omega)
    show 0 ≤ dp r p n + _
    omega
theorem dp_mono {r : Nat → Int} {p : Nat} {m : Nat} : ∀ n : Nat, m ≤ n → (∀ l, l < n → ly r (p + 2 + 7 * l)) → dp r p m ≤ dp r p n := by
  intro n
  induction n with
  | zero => intro h _; rw [show m = 0 by omega]; exact Int.le_refl _
  | succ n ih =>
    intro hm h
    by_cases e : m = n + 1
    · rw [e]; exact Int.le_refl _
    · have h1 := ih (by omega) (fun l hl => h l (by omega))
      obtain ⟨_, _, _, h2, _⟩ := h n (by omega)
      show dp r p m ≤ dp r p n + _
      omega
/-- a slope: n layers, all right, so much mass and depth at most -/
def okS (r : Nat → Int) (p : Nat) (M E : Int) : Prop := (0 ≤ r p ∧ r p ≤ 12) ∧ (∀ l : Nat, (l : Int) < r p → ly r (p + 2 + 7 * l)) ∧ ms r p (r p).toNat ≤ M ∧ dp r p (r p).toNat ≤ E
theorem okS.mk {r : Nat → Int} {p : Nat} {M E : Int} (n : Nat) (hp : r p = (n : Int)) (hn : n ≤ 12) (h : ∀ l, l < n → ly r (p + 2 + 7 * l)) (hm : ms r p n ≤ M) (hd : dp r p n ≤ E) : okS r p M E := by
  refine ⟨by omega, fun l hl => h l (by omega), ?_, ?_⟩
  · rw [hp]; exact hm
  · rw [hp]; exact hd
/-- what a slope gives: its number of layers n -/
theorem okS.get {r : Nat → Int} {p : Nat} {M E : Int} (h : okS r p M E) : ∃ n : Nat, r p = (n : Int) ∧ n ≤ 12 ∧ (∀ l, l < n → ly r (p + 2 + 7 * l)) ∧ (ms r p n ≤ M ∧ 0 ≤ ms r p n) ∧ (dp r p n ≤ E ∧ 0 ≤ dp r p n) := by
  obtain ⟨h1, h2, h3, h4⟩ := h
  have e : r p = ((r p).toNat : Int) := by omega
  have h5 : ∀ l, l < (r p).toNat → ly r (p + 2 + 7 * l) := fun l hl => h2 l (by omega)
  exact ⟨(r p).toNat, e, by omega, h5, ⟨h3, ms_pos _ h5⟩, h4, dp_pos _ h5⟩
theorem okS.mono {r : Nat → Int} {p : Nat} {M E M2 E2 : Int} (h : okS r p M E) (hM : M ≤ M2) (hE : E ≤ E2) : okS r p M2 E2 := ⟨h.1, h.2.1, by have := h.2.2.1; omega, by have := h.2.2.2; omega⟩
theorem okS.ext {r r' : Nat → Int} {p : Nat} {M E : Int} (he : ∀ j, p ≤ j → j < p + 86 → r' j = r j) (h : okS r p M E) : okS r' p M E := by
  obtain ⟨n, h1, h2, h3, h4, h5⟩ := h.get
  refine okS.mk n (by rw [he p (by omega) (by omega)]; exact h1) h2 (fun l hl => (h3 l hl).ext (fun j j1 j2 => he j (by omega) (by omega))) ?_ ?_
  · rw [ms_ext n (fun l hl => ⟨he _ (by omega) (by omega), he _ (by omega) (by omega)⟩)]; exact h4.1
  · rw [dp_ext n (fun l hl => he _ (by omega) (by omega))]; exact h5.1
theorem okS.zero {r : Nat → Int} {p : Nat} {M E : Int} (h : r p = 0) (hM : 0 ≤ M) (hE : 0 ≤ E) : okS r p M E := okS.mk 0 h (by omega) (fun l hl => absurd hl (by omega)) hM hE
/-- what a layer of a slope gives -/
theorem okS.layer {r : Nat → Int} {p k q : Nat} {M E : Int} (h : okS r p M E) (hk : (k : Int) < r p) (hq : p + 2 + 7 * k = q) : ly r q ∧ r (q + 1) + r (q + 2) ≤ M ∧ r (q + 3) ≤ E := by
  subst hq
  obtain ⟨n, h1, h2, h3, h4, h5⟩ := h.get
  have hk2 : k + 1 ≤ n := by omega
  have a1 := ms_mono (m := k + 1) n hk2 h3
  have a2 := dp_mono (m := k + 1) n hk2 h3
  have a3 := ms_pos (r := r) (p := p) k (fun l hl => h3 l (by omega))
  have a4 := dp_pos (r := r) (p := p) k (fun l hl => h3 l (by omega))
  have e1 : ms r p (k + 1) = ms r p k + (r (p + 2 + 7 * k + 1) + r (p + 2 + 7 * k + 2)) := rfl
  have e2 : dp r p (k + 1) = dp r p k + r (p + 2 + 7 * k + 3) := rfl
  exact ⟨h3 k (by omega), by omega, by omega⟩
/-- one layer changed, by so much heavier and deeper -/
theorem okS.one {r r' : Nat → Int} {p k q : Nat} {M E : Int} (a d : Int) (h : okS r p M E) (hk : (k : Int) < r p) (hq : p + 2 + 7 * k = q) (he : ∀ j, p ≤ j → j < p + 86 → j ≠ p + 1 → j < q ∨ q + 7 ≤ j → r' j = r j) (hl : ly r' q) (hm : r' (q + 1) + r' (q + 2) ≤ r (q + 1) + r (q + 2) + a) (hd : r' (q + 3) ≤ r (q + 3) + d) : okS r' p (M + a) (E + d) := by
  obtain ⟨n, h1, h2, h3, h4, h5⟩ := h.get
  have hk2 : k < n := by omega
  refine okS.mk n (by rw [he p (by omega) (by omega) (by omega) (by omega)]; exact h1) h2 (fun l hl2 => ?_) ?_ ?_
  · by_cases e : l = k
    · subst e; rw [hq]; exact hl
    · exact (h3 l hl2).ext (fun j j1 j2 => he j (by omega) (by omega) (by omega) (by omega))
  · rw [ms_one hq n hk2 (fun l hl2 e => ⟨he _ (by omega) (by omega) (by omega) (by omega), he _ (by omega) (by omega) (by omega) (by omega)⟩)]; omega
  · rw [dp_one hq n hk2 (fun l hl2 e => he _ (by omega) (by omega) (by omega) (by omega))]; omega
/-- the layers k (at q) and k + 1 (at q2) changed, together no heavier, no deeper -/
theorem okS.two {r r' : Nat → Int} {p k q q2 : Nat} {M E : Int} (h : okS r p M E) (hk : (k : Int) + 1 < r p) (hq : p + 2 + 7 * k = q) (hq2 : q + 7 = q2) (he : ∀ j, p ≤ j → j < p + 86 → j ≠ p + 1 → j < q ∨ q + 14 ≤ j → r' j = r j) (hl : ly r' q) (hl2 : ly r' q2) (hm : r' (q + 1) + r' (q + 2) + (r' (q2 + 1) + r' (q2 + 2)) ≤ r (q + 1) + r (q + 2) + (r (q2 + 1) + r (q2 + 2))) (hd : r' (q + 3) + r' (q2 + 3) ≤ r (q + 3) + r (q2 + 3)) : okS r' p M E := by
  obtain ⟨n, h1, h2, h3, h4, h5⟩ := h.get
  have hk2 : k + 1 < n := by omega
  have hm1 := ms_one (r := r) (r' := fun j => if j < q2 then r' j else r j) hq n (by omega) (fun l hl2 e => by
    by_cases e1 : l < k
    · simp only [show p + 2 + 7 * l + 1 < q2 by omega, show p + 2 + 7 * l + 2 < q2 by omega, if_true]
      exact ⟨he _ (by omega) (by omega) (by omega) (by omega), he _ (by omega) (by omega) (by omega) (by omega)⟩
    · simp only [show ¬ (p + 2 + 7 * l + 1 < q2) by omega, show ¬ (p + 2 + 7 * l + 2 < q2) by omega, if_false, and_self])
  have hd1 := dp_one (r := r) (r' := fun j => if j < q2 then r' j else r j) hq n (by omega) (fun l hl2 e => by
    by_cases e1 : l < k
    · simp only [show p + 2 + 7 * l + 3 < q2 by omega, if_true]
      exact he _ (by omega) (by omega) (by omega) (by omega)
    · simp only [show ¬ (p + 2 + 7 * l + 3 < q2) by omega, if_false])
  have hm2 := ms_one (r := fun j => if j < q2 then r' j else r j) (r' := r') (show p + 2 + 7 * (k + 1) = q2 by omega) n (by omega) (fun l hl2 e => by
    by_cases e1 : l < k + 1
    · simp only [show p + 2 + 7 * l + 1 < q2 by omega, show p + 2 + 7 * l + 2 < q2 by omega, if_true, and_self]
    · simp only [show ¬ (p + 2 + 7 * l + 1 < q2) by omega, show ¬ (p + 2 + 7 * l + 2 < q2) by omega, if_false]
      exact ⟨he _ (by omega) (by omega) (by omega) (by omega), he _ (by omega) (by omega) (by omega) (by omega)⟩)
  have hd2 := dp_one (r := fun j => if j < q2 then r' j else r j) (r' := r') (show p + 2 + 7 * (k + 1) = q2 by omega) n (by omega) (fun l hl2 e => by
    by_cases e1 : l < k + 1
    · simp only [show p + 2 + 7 * l + 3 < q2 by omega, if_true]
    · simp only [show ¬ (p + 2 + 7 * l + 3 < q2) by omega, if_false]
      exact he _ (by omega) (by omega) (by omega) (by omega))
  simp only [show q + 1 < q2 by omega, show q + 2 < q2 by omega, show ¬ (q2 + 1 < q2) by omega, show ¬ (q2 + 2 < q2) by omega, if_true, if_false] at hm1 hm2
  simp only [show q + 3 < q2 by omega, show ¬ (q2 + 3 < q2) by omega, if_true, if_false] at hd1 hd2
  refine okS.mk n (by rw [he p (by omega) (by omega) (by omega) (by omega)]; exact h1) h2 (fun l hl3 => ?_) (by omega) (by omega)
  by_cases e : l = k
  · subst e; rw [hq]; exact hl
  · by_cases e2 : l = k + 1
    · subst e2; rw [show p + 2 + 7 * (k + 1) = q2 by omega]; exact hl2
    · exact (h3 l hl3).ext (fun j j1 j2 => he j (by omega) (by omega) (by omega) (by omega))
/-- layers taken from the top -/
theorem okS.cut {r r' : Nat → Int} {p : Nat} {M E : Int} (h : okS r p M E) (he : ∀ j, p + 1 < j → j < p + 86 → r' j = r j) (hm : 0 ≤ r' p ∧ r' p ≤ r p) : okS r' p M E := by
  obtain ⟨n, h1, h2, h3, h4, h5⟩ := h.get
  obtain ⟨m, hm1⟩ : ∃ m : Nat, r' p = (m : Int) := ⟨(r' p).toNat, by omega⟩
  have hmn : m ≤ n := by omega
  refine okS.mk m hm1 (by omega) (fun l hl => (h3 l (by omega)).ext (fun j j1 j2 => he j (by omega) (by omega))) ?_ ?_
  · rw [ms_ext m (fun l hl => ⟨he _ (by omega) (by omega), he _ (by omega) (by omega)⟩)]; have := ms_mono n hmn h3; omega
  · rw [dp_ext m (fun l hl => he _ (by omega) (by omega))]; have := dp_mono n hmn h3; omega
/-- the top layer k + 1 (at q2) melts away into the layer k (at q) -/
theorem okS.melt {r r' : Nat → Int} {p k q q2 : Nat} {M E : Int} (h : okS r p M E) (hk : r p = (k : Int) + 2) (hq : p + 2 + 7 * k = q) (hq2 : q + 7 = q2) (hp : r' p = (k : Int) + 1) (he : ∀ j, p + 1 < j → j < q + 7 → j ≠ q + 2 → r' j = r j) (hw : r (q + 2) ≤ r' (q + 2) ∧ r' (q + 2) ≤ r (q + 2) + (r (q2 + 1) + r (q2 + 2))) : okS r' p M E := by
  obtain ⟨n, h1, h2, h3, h4, h5⟩ := h.get
  have hn : n = k + 2 := by omega
  subst hn
  have hly : ly r' q := by
    have h9 := h3 k (by omega)
    rw [hq] at h9
    unfold ly at *
    rw [he q (by omega) (by omega) (by omega), he (q + 1) (by omega) (by omega) (by omega), he (q + 3) (by omega) (by omega) (by omega), he (q + 4) (by omega) (by omega) (by omega), he (q + 6) (by omega) (by omega) (by omega)]
    omega
  have e1 : ms r p (k + 2) = ms r p (k + 1) + (r (p + 2 + 7 * (k + 1) + 1) + r (p + 2 + 7 * (k + 1) + 2)) := rfl
  have e2 : dp r p (k + 2) = dp r p (k + 1) + r (p + 2 + 7 * (k + 1) + 3) := rfl
  rw [show p + 2 + 7 * (k + 1) + 1 = q2 + 1 by omega, show p + 2 + 7 * (k + 1) + 2 = q2 + 2 by omega] at e1
  have hd9 := (h3 (k + 1) (by omega)).2.2.2.1
  refine okS.mk (k + 1) hp (by omega) (fun l hl => ?_) ?_ ?_
  · by_cases e : l = k
    · subst e; rw [hq]; exact hly
    · exact (h3 l (by omega)).ext (fun j j1 j2 => he j (by omega) (by omega) (by omega))
  · rw [ms_one hq (k + 1) (by omega) (fun l hl e => ⟨he _ (by omega) (by omega) (by omega), he _ (by omega) (by omega) (by omega)⟩), he (q + 1) (by omega) (by omega) (by omega)]; omega
  · rw [dp_ext (k + 1) (fun l hl => he _ (by omega) (by omega) (by omega))]; omega
/-- a new layer n at q on the top -/
theorem okS.push {r r' : Nat → Int} {p n q : Nat} {M E : Int} (a d : Int) (h : okS r p M E) (hn : r p = (n : Int)) (hn2 : n < 12) (hq : p + 2 + 7 * n = q) (hp : r' p = (n : Int) + 1) (he : ∀ j, p + 1 < j → j < q → r' j = r j) (hl : ly r' q) (ha : r' (q + 1) + r' (q + 2) ≤ a) (hd : r' (q + 3) ≤ d) : okS r' p (M + a) (E + d) := by
  obtain ⟨n2, h1, h2, h3, h4, h5⟩ := h.get
  have hn3 : n2 = n := by omega
  subst hn3
  have e1 : ms r' p (n2 + 1) = ms r' p n2 + (r' (p + 2 + 7 * n2 + 1) + r' (p + 2 + 7 * n2 + 2)) := rfl
  have e2 : dp r' p (n2 + 1) = dp r' p n2 + r' (p + 2 + 7 * n2 + 3) := rfl
  rw [hq, ms_ext n2 (fun l hl => ⟨he _ (by omega) (by omega), he _ (by omega) (by omega)⟩)] at e1
  rw [hq, dp_ext n2 (fun l hl => he _ (by omega) (by omega))] at e2
  refine okS.mk (n2 + 1) hp (by omega) (fun l hl3 => ?_) (by omega) (by omega)
  by_cases e : l = n2
  · subst e; rw [hq]; exact hl
  · exact (h3 l (by omega)).ext (fun j j1 j2 => he j (by omega) (by omega))
/-- the shift behind a join: layers 1 .. take what lay one higher -/
theorem ms_shift {r r' : Nat → Int} {p : Nat} : ∀ n : Nat, (∀ l, 1 ≤ l → l < n + 1 → r' (p + 2 + 7 * l + 1) = r (p + 2 + 7 * (l + 1) + 1) ∧ r' (p + 2 + 7 * l + 2) = r (p + 2 + 7 * (l + 1) + 2)) → ms r' p (n + 1) - ms r' p 1 = ms r p (n + 2) - ms r p 2 := by
  intro n
  induction n with
  | zero => intro _; show ms r' p 1 - ms r' p 1 = ms r p 2 - ms r p 2; omega
  | succ n ih =>
    intro h
    have h1 := ih (fun l a b => h l a (by omega))
    have h2 := h (n + 1) (by omega) (by omega)
    have e1 : ms r' p (n + 1 + 1) = ms r' p (n + 1) + (r' (p + 2 + 7 * (n + 1) + 1) + r' (p + 2 + 7 * (n + 1) + 2)) := rfl
    have e2 : ms r p (n + 1 + 2) = ms r p (n + 2) + (r (p + 2 + 7 * (n + 2) + 1) + r (p + 2 + 7 * (n + 2) + 2)) := rfl
    rw [h2.1, h2.2] at e1
    rw [show n + 1 + 1 = n + 2 by omega] at e1
    rw [show n + 1 + 1 = n + 2 by omega]
    omega
theorem dp_shift {r r' : Nat → Int} {p : Nat} : ∀ n : Nat, (∀ l, 1 ≤ l → l < n + 1 → r' (p + 2 + 7 * l + 3) = r (p + 2 + 7 * (l + 1) + 3)) → dp r' p (n + 1) - dp r' p 1 = dp r p (n + 2) - dp r p 2 := by
  intro n
  induction n with
  | zero => intro _; show dp r' p 1 - dp r' p 1 = dp r p 2 - dp r p 2; omega
  | succ n ih =>
    intro h
    have h1 := ih (fun l a b => h l a (by omega))
    have h2 := h (n + 1) (by omega) (by omega)
    have e1 : dp r' p (n + 1 + 1) = dp r' p (n + 1) + r' (p + 2 + 7 * (n + 1) + 3) := rfl
    have e2 : dp r p (n + 1 + 2) = dp r p (n + 2) + r (p + 2 + 7 * (n + 2) + 3) := rfl
    rw [h2] at e1
    rw [show n + 1 + 1 = n + 2 by omega] at e1
    rw [show n + 1 + 1 = n + 2 by omega]
    omega
/-- two lowest layers joined, the others one lower -/
theorem okS.join {r r' : Nat → Int} {p q q2 : Nat} {M E : Int} (h : okS r p M E) (hn : r p = 12) (hq : p + 2 = q) (hq2 : q + 7 = q2) (hp : r' p = 11) (hs : ∀ l, 1 ≤ l → l < 11 → ∀ f, f < 7 → r' (p + 2 + 7 * l + f) = r (p + 2 + 7 * (l + 1) + f)) (hl : ly r' q) (hm : r' (q + 1) + r' (q + 2) = r (q + 1) + r (q + 2) + (r (q2 + 1) + r (q2 + 2))) (hd : r' (q + 3) = r (q + 3) + r (q2 + 3)) : okS r' p M E := by
  subst hq
  subst hq2
  obtain ⟨n, h1, h2, h3, h4, h5⟩ := h.get
  have hn2 : n = 12 := by omega
  subst hn2
  have a1 := ms_shift (r := r) (r' := r') (p := p) 10 (fun l x y => ⟨hs l x (by omega) 1 (by omega), hs l x (by omega) 2 (by omega)⟩)
  have a2 := dp_shift (r := r) (r' := r') (p := p) 10 (fun l x y => hs l x (by omega) 3 (by omega))
  have e1 : ms r' p 1 = 0 + (r' (p + 2 + 7 * 0 + 1) + r' (p + 2 + 7 * 0 + 2)) := rfl
  have e2 : ms r p 2 = 0 + (r (p + 2 + 7 * 0 + 1) + r (p + 2 + 7 * 0 + 2)) + (r (p + 2 + 7 * 1 + 1) + r (p + 2 + 7 * 1 + 2)) := rfl
  have e3 : dp r' p 1 = 0 + r' (p + 2 + 7 * 0 + 3) := rfl
  have e4 : dp r p 2 = 0 + r (p + 2 + 7 * 0 + 3) + r (p + 2 + 7 * 1 + 3) := rfl
  rw [show p + 2 + 7 * 0 + 1 = p + 2 + 1 by omega, show p + 2 + 7 * 0 + 2 = p + 2 + 2 by omega] at e1 e2
  rw [show p + 2 + 7 * 1 + 1 = p + 2 + 7 + 1 by omega, show p + 2 + 7 * 1 + 2 = p + 2 + 7 + 2 by omega] at e2
  rw [show p + 2 + 7 * 0 + 3 = p + 2 + 3 by omega] at e3 e4
  rw [show p + 2 + 7 * 1 + 3 = p + 2 + 7 + 3 by omega] at e4
  have a1b : ms r' p 11 - ms r' p 1 = ms r p 12 - ms r p 2 := a1
  have a2b : dp r' p 11 - dp r' p 1 = dp r p 12 - dp r p 2 := a2
  refine okS.mk 11 hp (by omega) (fun l hl2 => ?_) (by omega) (by omega)
  by_cases e : l = 0
  · subst e; exact hl
  · have h9 := h3 (l + 1) (by omega)
    unfold ly at *
    have s0 := hs l (by omega) (by omega) 0 (by omega)
    rw [Nat.add_zero, Nat.add_zero] at s0
    rw [s0, hs l (by omega) (by omega) 1 (by omega), hs l (by omega) (by omega) 2 (by omega), hs l (by omega) (by omega) 3 (by omega), hs l (by omega) (by omega) 4 (by omega), hs l (by omega) (by omega) 6 (by omega)]
    exact h9
/-! ===== a row of numbers at b: its four slopes, by the time and x more ===== -/
def mB (t : Int) : Int := 2400 + 50 * t
def eB (t : Int) : Int := 12000 + 139000 * t
def okW (r : Nat → Int) (b : Nat) (x : Int) : Prop := (∀ s : Nat, s < 4 → okS r (b + 6 + 86 * s) (mB (r b + x)) (eB (r b + x))) ∧ (0 ≤ r b ∧ r b ≤ 2180) ∧ (0 ≤ r (b + 1) ∧ r (b + 1) ≤ 900 + 4 * (r b + x)) ∧ (0 ≤ r (b + 5) ∧ r (b + 5) ≤ 6)
theorem okW.mono {r : Nat → Int} {b : Nat} {x y : Int} (h : okW r b x) (hxy : x ≤ y) : okW r b y := ⟨fun s hs => (h.1 s hs).mono (by unfold mB; omega) (by unfold eB; omega), h.2.1, by have := h.2.2.1; omega, h.2.2.2⟩
theorem okW.ext {r r' : Nat → Int} {b b' : Nat} {x : Int} (he : ∀ k, k < 350 → r' (b' + k) = r (b + k)) (h : okW r b x) : okW r' b' x := by
  obtain ⟨h1, h2, h3, h4⟩ := h
  have e0 : r' b' = r b := he 0 (by omega)
  refine ⟨fun s hs => ?_, by rw [e0]; exact h2, by rw [he 1 (by omega), e0]; exact h3, by rw [he 5 (by omega)]; exact h4⟩
  rw [e0]
  obtain ⟨n, a1, a2, a3, a4, a5⟩ := (h1 s hs).get
  have hx : ∀ k, k < 86 → r' (b' + 6 + 86 * s + k) = r (b + 6 + 86 * s + k) := fun k hk => by
    rw [show b' + 6 + 86 * s + k = b' + (6 + 86 * s + k) by omega, show b + 6 + 86 * s + k = b + (6 + 86 * s + k) by omega]
    exact he _ (by omega)
  have hy : ∀ l f, l < 12 → f < 7 → r' (b' + 6 + 86 * s + 2 + 7 * l + f) = r (b + 6 + 86 * s + 2 + 7 * l + f) := fun l f hl hf => by
    rw [show b' + 6 + 86 * s + 2 + 7 * l + f = b' + 6 + 86 * s + (2 + 7 * l + f) by omega, show b + 6 + 86 * s + 2 + 7 * l + f = b + 6 + 86 * s + (2 + 7 * l + f) by omega]
    exact hx _ (by omega)
  have hms : ∀ m, m ≤ 12 → ms r' (b' + 6 + 86 * s) m = ms r (b + 6 + 86 * s) m := by
    intro m
    induction m with
    | zero => intro _; rfl
    | succ m ih =>
      intro hm
      show ms r' _ m + _ = ms r _ m + _
      rw [ih (by omega), hy m 1 (by omega) (by omega), hy m 2 (by omega) (by omega)]
  have hdp : ∀ m, m ≤ 12 → dp r' (b' + 6 + 86 * s) m = dp r (b + 6 + 86 * s) m := by
    intro m
    induction m with
    | zero => intro _; rfl
    | succ m ih =>
      intro hm
      show dp r' _ m + _ = dp r _ m + _
      rw [ih (by omega), hy m 3 (by omega) (by omega)]
  refine okS.mk n ((hx 0 (by omega)).trans a1) a2 (fun l hl => ?_) (by rw [hms n a2]; exact a4.1) (by rw [hdp n a2]; exact a5.1)
  have h9 := a3 l hl
  unfold ly at *
  have s0 := hy l 0 (by omega) (by omega)
  rw [Nat.add_zero, Nat.add_zero] at s0
  rw [s0, hy l 1 (by omega) (by omega), hy l 2 (by omega) (by omega), hy l 3 (by omega) (by omega), hy l 4 (by omega) (by omega), hy l 6 (by omega) (by omega)]
  exact h9
theorem ms_at {r : Nat → Int} {p k q : Nat} {l : Int} (hl : l = (k : Int)) (hq : p + 2 + 7 * k = q) : ms r p (l + 1).toNat = ms r p l.toNat + (r (q + 1) + r (q + 2)) := by
  subst hq
  rw [show (l + 1).toNat = k + 1 by omega, show l.toNat = k by omega]
  rfl
/-! ===== products and quotients ===== -/
theorem mulx {a x c h : Int} (ha : 0 ≤ a) (hx : a ≤ x) (hc : 0 ≤ c) (hh : x * c ≤ h) : ∃ y, a * c = y ∧ 0 ≤ y ∧ y ≤ h := ⟨_, rfl, Int.mul_nonneg ha hc, Int.le_trans (Int.mul_le_mul_of_nonneg_right hx hc) hh⟩
theorem mulb {a b A B : Int} (ha : 0 ≤ a ∧ a ≤ A) (hb : 0 ≤ b ∧ b ≤ B) : ∃ x, a * b = x ∧ 0 ≤ x ∧ x ≤ A * B := ⟨_, rfl, Int.mul_nonneg ha.1 hb.1, Int.mul_le_mul ha.2 hb.2 hb.1 (by omega)⟩
theorem muln {a b A B : Int} (ha : -A ≤ a ∧ a ≤ 0) (hb : 0 ≤ b ∧ b ≤ B) : ∃ x, a * b = x ∧ -(A * b) ≤ x ∧ x ≤ 0 := by
  refine ⟨_, rfl, ?_, ?_⟩
  · have h := Int.mul_le_mul_of_nonneg_right ha.1 hb.1
    rw [Int.neg_mul] at h
    exact h
  · have h := Int.mul_nonneg (show 0 ≤ -a by omega) hb.1
    rw [Int.neg_mul] at h
    omega
theorem tdp {a k : Int} (ha : 0 ≤ a) (hk : 1 ≤ k) : ∃ x, a.tdiv k = x ∧ 0 ≤ x ∧ x ≤ a ∧ x * k ≤ a := by
  refine ⟨_, rfl, Int.tdiv_nonneg ha (by omega), Int.tdiv_le_self k ha, ?_⟩
  rw [Int.tdiv_eq_ediv_of_nonneg ha]
  exact Int.ediv_mul_le a (show k ≠ 0 by omega)
theorem tdm {a k : Int} (ha : -(300 * k) ≤ a ∧ a ≤ 0) (hk : 1 ≤ k) : ∃ x, a.tdiv k = x ∧ -300 ≤ x ∧ x ≤ 0 := by
  obtain ⟨b, hb⟩ : ∃ b, a = -b := ⟨-a, by omega⟩
  subst hb
  refine ⟨_, rfl, ?_, ?_⟩
  · rw [Int.neg_tdiv, Int.tdiv_eq_ediv_of_nonneg (by omega)]
    have h := Int.ediv_le_of_le_mul (a := b) (b := 300) (c := k) (by omega) (by omega)
    omega
  · rw [Int.neg_tdiv, Int.tdiv_eq_ediv_of_nonneg (by omega)]
    have h := Int.ediv_nonneg (a := b) (b := k) (by omega) (by omega)
    omega
theorem tdk {a : Int} (k : Nat) (hk : 0 < k) : ∃ x, a.tdiv (k : Int) = x ∧ (0 ≤ a → 0 ≤ x ∧ (k : Int) * x ≤ a ∧ a < (k : Int) * x + (k : Int)) ∧ (a ≤ 0 → x ≤ 0 ∧ a ≤ (k : Int) * x ∧ (k : Int) * x < a + (k : Int)) := by
  have hk1 : (0 : Int) < (k : Int) := by omega
  have pos : ∀ a : Int, 0 ≤ a → 0 ≤ a.tdiv (k : Int) ∧ (k : Int) * a.tdiv (k : Int) ≤ a ∧ a < (k : Int) * a.tdiv (k : Int) + (k : Int) := by
    intro a ha
    rw [Int.tdiv_eq_ediv_of_nonneg ha]
    have h1 := Int.mul_ediv_add_emod a (k : Int)
    have h2 := Int.emod_nonneg a (show (k : Int) ≠ 0 by omega)
    have h3 := Int.emod_lt_of_pos a hk1
    exact ⟨Int.ediv_nonneg ha (by omega), by omega, by omega⟩
  refine ⟨_, rfl, pos a, fun h => ?_⟩
  obtain ⟨b, hb⟩ : ∃ b, a = -b := ⟨-a, by omega⟩
  subst hb
  obtain ⟨p1, p2, p3⟩ := pos b (by omega)
  rw [Int.neg_tdiv]
  rw [Int.mul_neg]
  omega

