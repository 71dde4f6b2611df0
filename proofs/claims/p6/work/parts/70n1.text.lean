/-- as far as P holds, from p, below n -/
def tk_rnA (P : Int → Bool) (T : Nat → Int) : Nat → Nat → Nat
  | 0, p => p
  | f + 1, p => if P (T p) = true then tk_rnA P T f (p + 1) else p
def tk_rn (P : Int → Bool) (T : Nat → Int) (n p : Nat) : Nat := tk_rnA P T (n - p) p
theorem tk_rn_go {P : Int → Bool} {T : Nat → Int} {n p : Nat} (h : p < n) (hb : P (T p) = true) : tk_rn P T n p = tk_rn P T n (p + 1) := by
  unfold tk_rn
  rw [show n - p = (n - (p + 1)) + 1 by omega]
  show (if P (T p) = true then _ else _) = _
  rw [if_pos hb]
theorem tk_rn_end {P : Int → Bool} {T : Nat → Int} {n p : Nat} (h : n ≤ p ∨ P (T p) = false) : tk_rn P T n p = p := by
  unfold tk_rn
  by_cases e : n ≤ p
  · rw [show n - p = 0 by omega]; rfl
  · rw [show n - p = (n - (p + 1)) + 1 by omega]
    show (if P (T p) = true then _ else _) = _
    rw [if_neg (by rw [h.resolve_left e]; decide)]
theorem tk_rn_b {P : Int → Bool} {T : Nat → Int} {n p : Nat} (h : p ≤ n) : p ≤ tk_rn P T n p ∧ tk_rn P T n p ≤ n := by
  have h9 : ∀ f p, p + f = n → p ≤ tk_rnA P T f p ∧ tk_rnA P T f p ≤ n := by
    intro f
    induction f with
    | zero => intro p h; exact ⟨Nat.le_refl _, by show p ≤ n; omega⟩
    | succ f ih =>
      intro p h
      show p ≤ (if P (T p) = true then _ else _) ∧ (if P (T p) = true then _ else _) ≤ n
      by_cases e : P (T p) = true
      · rw [if_pos e]
        have h2 := ih (p + 1) (by omega)
        omega
      · rw [if_neg e]
        omega
  exact h9 (n - p) p (by omega)
def tk_bl (c : Int) : Bool := decide (c = 32 ∨ c = 10)
/-- the sort of a byte: 1 letter, 2 digit, 3 semicolon, 4 dash, 5 other -/
def tk_ty (c : Int) : Int := if 97 ≤ c ∧ c ≤ 122 then 1 else if 48 ≤ c ∧ c ≤ 57 then 2 else if c = 59 then 3 else if c = 45 then 4 else 5
theorem tk_ty_c (c : Int) : (tk_ty c = 1 ∧ 97 ≤ c ∧ c ≤ 122) ∨ (tk_ty c = 2 ∧ 48 ≤ c ∧ c ≤ 57) ∨ (tk_ty c = 3 ∧ c = 59) ∨ (tk_ty c = 4 ∧ c = 45) ∨ (tk_ty c = 5 ∧ ¬ (97 ≤ c ∧ c ≤ 122) ∧ ¬ (48 ≤ c ∧ c ≤ 57) ∧ c ≠ 59 ∧ c ≠ 45) := by
  unfold tk_ty
  by_cases h1 : 97 ≤ c ∧ c ≤ 122
  · rw [if_pos h1]; exact Or.inl ⟨rfl, h1⟩
  · rw [if_neg h1]
    by_cases h2 : 48 ≤ c ∧ c ≤ 57
    · rw [if_pos h2]; exact Or.inr (Or.inl ⟨rfl, h2⟩)
    · rw [if_neg h2]
      by_cases h3 : c = 59
      · rw [if_pos h3]; exact Or.inr (Or.inr (Or.inl ⟨rfl, h3⟩))
      · rw [if_neg h3]
        by_cases h4 : c = 45
        · rw [if_pos h4]; exact Or.inr (Or.inr (Or.inr (Or.inl ⟨rfl, h4⟩)))
        · rw [if_neg h4]; exact Or.inr (Or.inr (Or.inr (Or.inr ⟨rfl, h1, h2, h3, h4⟩)))
/-- the sort of the token at f; 0: the end -/
def tk_so (T : Nat → Int) (n f : Nat) : Int := if n ≤ f then 0 else tk_ty (T f)
/-- behind it -/
def tk_to (T : Nat → Int) (n f : Nat) : Nat := if n ≤ f then f else if tk_ty (T f) = 1 ∨ tk_ty (T f) = 2 then tk_rn (fun c => decide (tk_ty c = tk_ty (T f))) T n (f + 1) else f + 1
/-- the token from p on, the next token -/
def tk_at (T : Nat → Int) (n p : Nat) : Nat := tk_rn tk_bl T n p
def tk_nx (T : Nat → Int) (n f : Nat) : Nat := tk_at T n (tk_to T n f)
theorem tk_so_b (T : Nat → Int) (n f : Nat) : 0 ≤ tk_so T n f ∧ tk_so T n f ≤ 5 := by
  unfold tk_so
  by_cases h : n ≤ f
  · rw [if_pos h]; omega
  · rw [if_neg h]
    have h2 := tk_ty_c (T f)
    omega
theorem tk_so_0 {T : Nat → Int} {n f : Nat} : tk_so T n f = 0 ↔ n ≤ f := by
  unfold tk_so
  by_cases h : n ≤ f
  · rw [if_pos h]; exact ⟨fun _ => h, fun _ => rfl⟩
  · rw [if_neg h]
    have h2 := tk_ty_c (T f)
    exact ⟨fun e => by omega, fun e => absurd e h⟩
theorem tk_to_b {T : Nat → Int} {n f : Nat} (h : f ≤ n) : f ≤ tk_to T n f ∧ tk_to T n f ≤ n ∧ (f < n → f < tk_to T n f) := by
  unfold tk_to
  by_cases e : n ≤ f
  · rw [if_pos e]; omega
  · rw [if_neg e]
    by_cases e2 : tk_ty (T f) = 1 ∨ tk_ty (T f) = 2
    · rw [if_pos e2]
      have h2 := tk_rn_b (P := fun c => decide (tk_ty c = tk_ty (T f))) (T := T) (n := n) (p := f + 1) (by omega)
      omega
    · rw [if_neg e2]; omega
theorem tk_at_b {T : Nat → Int} {n p : Nat} (h : p ≤ n) : p ≤ tk_at T n p ∧ tk_at T n p ≤ n := tk_rn_b h
theorem tk_nx_b {T : Nat → Int} {n f : Nat} (h : f ≤ n) : f ≤ tk_nx T n f ∧ tk_nx T n f ≤ n ∧ (f < n → f < tk_nx T n f) := by
  have h1 := tk_to_b (T := T) h
  have h2 := tk_at_b (T := T) (n := n) (p := tk_to T n f) (by omega)
  unfold tk_nx
  omega
/-- the bytes from f are w -/
def tk_eq (T : Nat → Int) : Nat → List Int → Bool
  | _, [] => true
  | f, a :: w => decide (T f = a) && tk_eq T (f + 1) w
theorem tk_eq_u {T : Nat → Int} : ∀ (w v : List Int) (f : Nat), w.length = v.length → tk_eq T f w = true → tk_eq T f v = true → w = v
  | [], [], _, _, _, _ => rfl
  | [], _ :: _, _, h, _, _ => by simp at h
  | _ :: _, [], _, h, _, _ => by simp at h
  | a :: w, b :: v, f, h, h1, h2 => by
    simp only [tk_eq, Bool.and_eq_true, decide_eq_true_eq] at h1 h2
    rw [← h1.1, ← h2.1, tk_eq_u w v (f + 1) (by simpa using h) h1.2 h2.2]
theorem tk_eq_i {T : Nat → Int} : ∀ (w : List Int) (f : Nat), tk_eq T f w = true ↔ ∀ j, j < w.length → T (f + j) = w.getD j 0
  | [], _ => ⟨fun _ j h => absurd h (Nat.not_lt_zero j), fun _ => rfl⟩
  | a :: w, f => by
    simp only [tk_eq, Bool.and_eq_true, decide_eq_true_eq]
    rw [tk_eq_i w (f + 1)]
    constructor
    · intro h j hj
      cases j with
      | zero => exact h.1
      | succ j =>
        have h3 := h.2 j (by simpa using hj)
        rw [show f + (j + 1) = f + 1 + j by omega, h3]
        rfl
    · intro h
      refine ⟨h 0 (by simp), fun j hj => ?_⟩
      have h3 := h (j + 1) (by simpa using hj)
      rw [show f + (j + 1) = f + 1 + j by omega] at h3
      rw [h3]
      rfl
/-- the token at f is the word w -/
def tk_is (T : Nat → Int) (n f : Nat) (w : List Int) : Bool := decide (tk_so T n f = 1) && (decide (tk_to T n f = f + w.length) && tk_eq T f w)
theorem tk_is_u {T : Nat → Int} {n f : Nat} {w v : List Int} (h1 : tk_is T n f w = true) (h2 : tk_is T n f v = true) : w = v := by
  simp only [tk_is, Bool.and_eq_true, decide_eq_true_eq] at h1 h2
  exact tk_eq_u w v f (by omega) h1.2.2 h2.2.2
/-- the known words -/
def tk_kw (i : Nat) : List Int := ([[115, 108, 111, 112, 101], [108, 97, 121, 101, 114], [104, 111, 117, 114], [115, 110, 111, 119], [114, 97, 105, 110], [104, 111, 97, 114], [115, 116, 114, 111, 110, 103], [104, 111, 108, 100, 115], [115, 116, 105, 102, 102], [112, 111, 119, 100, 101, 114], [103, 114, 97, 105, 110, 115], [102, 97, 99, 101, 116, 115], [99, 114, 117, 115, 116]] : List (List Int)).getD i []
/-- which known word the token is; -1: none -/
def tk_w (T : Nat → Int) (n f : Nat) : Int := if tk_is T n f (tk_kw 0) = true then 0 else if tk_is T n f (tk_kw 1) = true then 1 else if tk_is T n f (tk_kw 2) = true then 2 else if tk_is T n f (tk_kw 3) = true then 3 else if tk_is T n f (tk_kw 4) = true then 4 else if tk_is T n f (tk_kw 5) = true then 5 else if tk_is T n f (tk_kw 6) = true then 6 else if tk_is T n f (tk_kw 7) = true then 7 else if tk_is T n f (tk_kw 8) = true then 8 else if tk_is T n f (tk_kw 9) = true then 9 else if tk_is T n f (tk_kw 10) = true then 10 else if tk_is T n f (tk_kw 11) = true then 11 else if tk_is T n f (tk_kw 12) = true then 12 else -1
theorem tk_kw_ne : ∀ i j : Fin 13, i ≠ j → tk_kw i.val ≠ tk_kw j.val := by decide
theorem tk_w_is {T : Nat → Int} {n f : Nat} (i : Nat) (hi : i < 13) : tk_is T n f (tk_kw i) = true ↔ tk_w T n f = (i : Int) := by
  have hu : ∀ j, j < 13 → j ≠ i → tk_is T n f (tk_kw i) = true → ¬ tk_is T n f (tk_kw j) = true := fun j hj hn h1 h2 => tk_kw_ne ⟨j, hj⟩ ⟨i, hi⟩ (fun e => hn (Fin.mk.inj e)) (tk_is_u h2 h1)
  have hw : ∀ k : Int, tk_w T n f = k → (∃ j : Nat, j < 13 ∧ k = (j : Int) ∧ tk_is T n f (tk_kw j) = true) ∨ k = -1 := by
    intro k hk
    unfold tk_w at hk
    by_cases e0 : tk_is T n f (tk_kw 0) = true
    · rw [if_pos e0] at hk; exact Or.inl ⟨0, by decide, hk.symm, e0⟩
    by_cases e1 : tk_is T n f (tk_kw 1) = true
    · rw [if_neg e0, if_pos e1] at hk; exact Or.inl ⟨1, by decide, hk.symm, e1⟩
    by_cases e2 : tk_is T n f (tk_kw 2) = true
    · rw [if_neg e0, if_neg e1, if_pos e2] at hk; exact Or.inl ⟨2, by decide, hk.symm, e2⟩
    by_cases e3 : tk_is T n f (tk_kw 3) = true
    · rw [if_neg e0, if_neg e1, if_neg e2, if_pos e3] at hk; exact Or.inl ⟨3, by decide, hk.symm, e3⟩
    by_cases e4 : tk_is T n f (tk_kw 4) = true
    · rw [if_neg e0, if_neg e1, if_neg e2, if_neg e3, if_pos e4] at hk; exact Or.inl ⟨4, by decide, hk.symm, e4⟩
    by_cases e5 : tk_is T n f (tk_kw 5) = true
    · rw [if_neg e0, if_neg e1, if_neg e2, if_neg e3, if_neg e4, if_pos e5] at hk; exact Or.inl ⟨5, by decide, hk.symm, e5⟩
    by_cases e6 : tk_is T n f (tk_kw 6) = true
    · rw [if_neg e0, if_neg e1, if_neg e2, if_neg e3, if_neg e4, if_neg e5, if_pos e6] at hk; exact Or.inl ⟨6, by decide, hk.symm, e6⟩
    by_cases e7 : tk_is T n f (tk_kw 7) = true
    · rw [if_neg e0, if_neg e1, if_neg e2, if_neg e3, if_neg e4, if_neg e5, if_neg e6, if_pos e7] at hk; exact Or.inl ⟨7, by decide, hk.symm, e7⟩
    by_cases e8 : tk_is T n f (tk_kw 8) = true
    · rw [if_neg e0, if_neg e1, if_neg e2, if_neg e3, if_neg e4, if_neg e5, if_neg e6, if_neg e7, if_pos e8] at hk; exact Or.inl ⟨8, by decide, hk.symm, e8⟩
    by_cases e9 : tk_is T n f (tk_kw 9) = true
    · rw [if_neg e0, if_neg e1, if_neg e2, if_neg e3, if_neg e4, if_neg e5, if_neg e6, if_neg e7, if_neg e8, if_pos e9] at hk; exact Or.inl ⟨9, by decide, hk.symm, e9⟩
    by_cases e10 : tk_is T n f (tk_kw 10) = true
    · rw [if_neg e0, if_neg e1, if_neg e2, if_neg e3, if_neg e4, if_neg e5, if_neg e6, if_neg e7, if_neg e8, if_neg e9, if_pos e10] at hk; exact Or.inl ⟨10, by decide, hk.symm, e10⟩
    by_cases e11 : tk_is T n f (tk_kw 11) = true
    · rw [if_neg e0, if_neg e1, if_neg e2, if_neg e3, if_neg e4, if_neg e5, if_neg e6, if_neg e7, if_neg e8, if_neg e9, if_neg e10, if_pos e11] at hk; exact Or.inl ⟨11, by decide, hk.symm, e11⟩
    by_cases e12 : tk_is T n f (tk_kw 12) = true
    · rw [if_neg e0, if_neg e1, if_neg e2, if_neg e3, if_neg e4, if_neg e5, if_neg e6, if_neg e7, if_neg e8, if_neg e9, if_neg e10, if_neg e11, if_pos e12] at hk; exact Or.inl ⟨12, by decide, hk.symm, e12⟩
    rw [if_neg e0, if_neg e1, if_neg e2, if_neg e3, if_neg e4, if_neg e5, if_neg e6, if_neg e7, if_neg e8, if_neg e9, if_neg e10, if_neg e11, if_neg e12] at hk
    exact Or.inr hk.symm
  constructor
  · intro h
    rcases hw _ rfl with ⟨j, hj, e1, e2⟩ | e
    · by_cases e3 : j = i
      · rw [e1, e3]
      · exact absurd e2 (hu j hj e3 h)
    · exfalso
      unfold tk_w at e
      have hc : ∃ j : Fin 13, j.val = i := ⟨⟨i, hi⟩, rfl⟩
      by_cases e0 : tk_is T n f (tk_kw 0) = true
      · rw [if_pos e0] at e; exact absurd e (by decide)
      by_cases e1 : tk_is T n f (tk_kw 1) = true
      · rw [if_neg e0, if_pos e1] at e; exact absurd e (by decide)
      by_cases e2 : tk_is T n f (tk_kw 2) = true
      · rw [if_neg e0, if_neg e1, if_pos e2] at e; exact absurd e (by decide)
      by_cases e3 : tk_is T n f (tk_kw 3) = true
      · rw [if_neg e0, if_neg e1, if_neg e2, if_pos e3] at e; exact absurd e (by decide)
      by_cases e4 : tk_is T n f (tk_kw 4) = true
      · rw [if_neg e0, if_neg e1, if_neg e2, if_neg e3, if_pos e4] at e; exact absurd e (by decide)
      by_cases e5 : tk_is T n f (tk_kw 5) = true
      · rw [if_neg e0, if_neg e1, if_neg e2, if_neg e3, if_neg e4, if_pos e5] at e; exact absurd e (by decide)
      by_cases e6 : tk_is T n f (tk_kw 6) = true
      · rw [if_neg e0, if_neg e1, if_neg e2, if_neg e3, if_neg e4, if_neg e5, if_pos e6] at e; exact absurd e (by decide)
      by_cases e7 : tk_is T n f (tk_kw 7) = true
      · rw [if_neg e0, if_neg e1, if_neg e2, if_neg e3, if_neg e4, if_neg e5, if_neg e6, if_pos e7] at e; exact absurd e (by decide)
      by_cases e8 : tk_is T n f (tk_kw 8) = true
      · rw [if_neg e0, if_neg e1, if_neg e2, if_neg e3, if_neg e4, if_neg e5, if_neg e6, if_neg e7, if_pos e8] at e; exact absurd e (by decide)
      by_cases e9 : tk_is T n f (tk_kw 9) = true
      · rw [if_neg e0, if_neg e1, if_neg e2, if_neg e3, if_neg e4, if_neg e5, if_neg e6, if_neg e7, if_neg e8, if_pos e9] at e; exact absurd e (by decide)
      by_cases e10 : tk_is T n f (tk_kw 10) = true
      · rw [if_neg e0, if_neg e1, if_neg e2, if_neg e3, if_neg e4, if_neg e5, if_neg e6, if_neg e7, if_neg e8, if_neg e9, if_pos e10] at e; exact absurd e (by decide)
      by_cases e11 : tk_is T n f (tk_kw 11) = true
      · rw [if_neg e0, if_neg e1, if_neg e2, if_neg e3, if_neg e4, if_neg e5, if_neg e6, if_neg e7, if_neg e8, if_neg e9, if_neg e10, if_pos e11] at e; exact absurd e (by decide)
      by_cases e12 : tk_is T n f (tk_kw 12) = true
      · rw [if_neg e0, if_neg e1, if_neg e2, if_neg e3, if_neg e4, if_neg e5, if_neg e6, if_neg e7, if_neg e8, if_neg e9, if_neg e10, if_neg e11, if_pos e12] at e; exact absurd e (by decide)
      rcases (show i = 0 ∨ i = 1 ∨ i = 2 ∨ i = 3 ∨ i = 4 ∨ i = 5 ∨ i = 6 ∨ i = 7 ∨ i = 8 ∨ i = 9 ∨ i = 10 ∨ i = 11 ∨ i = 12 by omega) with rfl | rfl | rfl | rfl | rfl | rfl | rfl | rfl | rfl | rfl | rfl | rfl | rfl
      · exact e0 h
      · exact e1 h
      · exact e2 h
      · exact e3 h
      · exact e4 h
      · exact e5 h
      · exact e6 h
      · exact e7 h
      · exact e8 h
      · exact e9 h
      · exact e10 h
      · exact e11 h
      · exact e12 h
  · intro h
    rcases hw _ rfl with ⟨j, hj, e1, e2⟩ | e
    · have e3 : j = i := by omega
      rw [← e3]; exact e2
    · omega
/-- the value of k digits from f -/
def tk_dv (T : Nat → Int) (f : Nat) : Nat → Int
  | 0 => 0
  | k + 1 => 10 * tk_dv T f k + T (f + k) - 48
/-- the number at f; of more than four digits 99999 -/
def tk_va (T : Nat → Int) (n f : Nat) : Int := if tk_to T n f - f ≤ 4 then tk_dv T f (tk_to T n f - f) else 99999
/-- a number from lo to hi, and where the next token begins: or a fault and its place -/
def tk_nu (T : Nat → Int) (n : Nat) (lo hi : Int) (f : Nat) : Except (Int × Nat) (Int × Nat) := if tk_so T n f ≠ 2 then .error (1, f) else if ¬ (lo ≤ tk_va T n f ∧ tk_va T n f ≤ hi) then .error (2, f) else .ok (tk_va T n f, tk_nx T n f)
/-- the kind that the token names; -1: none -/
def tk_kd (T : Nat → Int) (n f : Nat) : Int := if tk_w T n f = 5 then 4 else if 9 ≤ tk_w T n f then tk_w T n f - 9 else -1
/-- the fall that the token names; 0: none -/
def tk_fa (T : Nat → Int) (n f : Nat) : Int := if 3 ≤ tk_w T n f ∧ tk_w T n f ≤ 5 then tk_w T n f - 2 else 0
/-- a clause: what it tells, and where the token behind it begins; or a fault and its place. sl: how many slopes, ho: hours, mn: layers of each, td: places of the table that are told -/
def cl_slope (T : Nat → Int) (n : Nat) (sl : Int) (f : Nat) : Except (Int × Nat) ((Int × Int) × Nat) := if 4 ≤ sl then .error (2, f) else match tk_nu T n 0 90 (tk_nx T n f) with
  | .error e => .error e
  | .ok a => match tk_nu T n 0 20 a.2 with
    | .error e => .error e
    | .ok b => .ok ((a.1, b.1), b.2)
def cl_hour2 (T : Nat → Int) (n : Nat) (a : Int) (f : Nat) : Except (Int × Nat) ((Int × Int × Int) × Nat) := if tk_fa T n f = 0 then .ok ((a, 0, 0), f) else if tk_fa T n f = 3 then .ok ((a, tk_fa T n f, 0), tk_nx T n f) else match tk_nu T n 1 50 (tk_nx T n f) with
  | .error e => .error e
  | .ok b => .ok ((a, tk_fa T n f, b.1), b.2)
def cl_hour (T : Nat → Int) (n : Nat) (ho : Int) (f : Nat) : Except (Int × Nat) ((Int × Int × Int) × Nat) := if 24 ≤ ho then .error (2, f) else if tk_so T n (tk_nx T n f) = 4 then match tk_nu T n 0 300 (tk_nx T n (tk_nx T n f)) with
  | .error e => .error e
  | .ok a => cl_hour2 T n (-a.1) a.2
  else match tk_nu T n 0 100 (tk_nx T n f) with
  | .error e => .error e
  | .ok a => cl_hour2 T n a.1 a.2
def cl_table (T : Nat → Int) (n : Nat) (td : Nat → Int) (row lo hi : Int) (f : Nat) : Except (Int × Nat) ((Int × Int) × Nat) := if tk_kd T n (tk_nx T n f) = -1 then .error (1, tk_nx T n f) else if td (row + tk_kd T n (tk_nx T n f)).toNat = 1 then .error (4, tk_nx T n f) else match tk_nu T n lo hi (tk_nx T n (tk_nx T n f)) with
  | .error e => .error e
  | .ok a => .ok ((row + tk_kd T n (tk_nx T n f), a.1), a.2)
def cl_layer2 (T : Nat → Int) (n : Nat) (s k : Int) (f : Nat) : Except (Int × Nat) ((Int × Int × Int × Int × Int × Int) × Nat) := match tk_nu T n 1 99 f with
  | .error e => .error e
  | .ok i => match tk_nu T n 0 99 i.2 with
    | .error e => .error e
    | .ok w => match tk_nu T n 1 999 w.2 with
      | .error e => .error e
      | .ok d => if d.1 < i.1 + w.1 then .error (5, w.2) else match tk_nu T n 0 300 d.2 with
        | .error e => .error e
        | .ok c => .ok ((s, k, i.1, w.1, d.1, -c.1), c.2)
def cl_layer (T : Nat → Int) (n : Nat) (sl : Int) (mn : Nat → Int) (f : Nat) : Except (Int × Nat) ((Int × Int × Int × Int × Int × Int) × Nat) := match tk_nu T n 0 3 (tk_nx T n f) with
  | .error e => .error e
  | .ok s => if sl ≤ s.1 then .error (3, tk_nx T n f) else if 12 ≤ mn s.1.toNat then .error (2, tk_nx T n f) else if tk_kd T n s.2 = -1 then .error (1, s.2) else cl_layer2 T n s.1 (tk_kd T n s.2) (tk_nx T n s.2)
/-- and the semicolon behind it -/
def cl_fin {a : Type} (T : Nat → Int) (n : Nat) (x : Except (Int × Nat) (a × Nat)) : Except (Int × Nat) (a × Nat) := match x with
  | .error e => .error e
  | .ok v => if tk_so T n v.2 = 3 then .ok (v.1, tk_nx T n v.2) else .error (1, v.2)
