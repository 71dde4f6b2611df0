section
-- 70n1.text.lean.txt
/-- as far as P holds, from p, below n -/
def tk_rnA (P : Int → Bool) (T : Nat → Int) : Nat → Nat → Nat
  | 0, p => p
  | f + 1, p => if P (T p) = true then tk_rnA P T f (p + 1) else p
def tk_rn (P : Int → Bool) (T : Nat → Int) (n p : Nat) : Nat := tk_rnA P T (n - p) p
theorem tk_rn_go {P : Int → Bool} {T : Nat → Int} {n p : Nat} (h : p < n) (hb : P (T p) = true) : tk_rn P T n p = tk_rn P T n (p + 1) := by
  unfold tk_rn
  rw [show n - p = (n - (p + 1)) + 1 by omega]
  show (if P (T p) = true then _ else _) = _
  rw [if_pos hb]
theorem tk_rn_end {P : Int → Bool} {T : Nat → Int} {n p : Nat} (h : n ≤ p ∨ P (T p) = false) : tk_rn P T n p = p := by
  unfold tk_rn
  by_cases e : n ≤ p
  · rw [show n - p = 0 by omega]; rfl
  · rw [show n - p = (n - (p + 1)) + 1 by omega]
    show (if P (T p) = true then _ else _) = _
    rw [if_neg (by rw [h.resolve_left e]; decide)]
theorem tk_rn_b {P : Int → Bool} {T : Nat → Int} {n p : Nat} (h : p ≤ n) : p ≤ tk_rn P T n p ∧ tk_rn P T n p ≤ n := by
  have h9 : ∀ f p, p + f = n → p ≤ tk_rnA P T f p ∧ tk_rnA P T f p ≤ n := by
    intro f
    induction f with
    | zero => intro p h; exact ⟨Nat.le_refl _, by show p ≤ n; omega⟩
    | succ f ih =>
      intro p h
      show p ≤ (if P (T p) = true then _ else _) ∧ (if P (T p) = true then _ else _) ≤ n
      by_cases e : P (T p) = true
      · rw [if_pos e]
        have h2 := ih (p + 1) (by omega)
        omega
      · rw [if_neg e]
        omega
  exact h9 (n - p) p (by omega)
def tk_bl (c : Int) : Bool := decide (c = 32 ∨ c = 10)
/-- the sort of a byte: 1 letter, 2 digit, 3 semicolon, 4 dash, 5 other -/
def tk_ty (c : Int) : Int := if 97 ≤ c ∧ c ≤ 122 then 1 else if 48 ≤ c ∧ c ≤ 57 then 2 else if c = 59 then 3 else if c = 45 then 4 else 5
theorem tk_ty_c (c : Int) : (tk_ty c = 1 ∧ 97 ≤ c ∧ c ≤ 122) ∨ (tk_ty c = 2 ∧ 48 ≤ c ∧ c ≤ 57) ∨ (tk_ty c = 3 ∧ c = 59) ∨ (tk_ty c = 4 ∧ c = 45) ∨ (tk_ty c = 5 ∧ ¬ (97 ≤ c ∧ c ≤ 122) ∧ ¬ (48 ≤ c ∧ c ≤ 57) ∧ c ≠ 59 ∧ c ≠ 45) := by
  unfold tk_ty
  by_cases h1 : 97 ≤ c ∧ c ≤ 122
  · rw [if_pos h1]; exact Or.inl ⟨rfl, h1⟩
  · rw [if_neg h1]
    by_cases h2 : 48 ≤ c ∧ c ≤ 57
    · rw [if_pos h2]; exact Or.inr (Or.inl ⟨rfl, h2⟩)
    · rw [if_neg h2]
      by_cases h3 : c = 59
      · rw [if_pos h3]; exact Or.inr (Or.inr (Or.inl ⟨rfl, h3⟩))
      · rw [if_neg h3]
        by_cases h4 : c = 45
        · rw [if_pos h4]; exact Or.inr (Or.inr (Or.inr (Or.inl ⟨rfl, h4⟩)))
        · rw [if_neg h4]; exact Or.inr (Or.inr (Or.inr (Or.inr ⟨rfl, h1, h2, h3, h4⟩)))
/-- the sort of the token at f; 0: the end -/
def tk_so (T : Nat → Int) (n f : Nat) : Int := if n ≤ f then 0 else tk_ty (T f)
/-- behind it -/
def tk_to (T : Nat → Int) (n f : Nat) : Nat := if n ≤ f then f else if tk_ty (T f) = 1 ∨ tk_ty (T f) = 2 then tk_rn (fun c => decide (tk_ty c = tk_ty (T f))) T n (f + 1) else f + 1
/-- the token from p on, the next token -/
def tk_at (T : Nat → Int) (n p : Nat) : Nat := tk_rn tk_bl T n p
def tk_nx (T : Nat → Int) (n f : Nat) : Nat := tk_at T n (tk_to T n f)
theorem tk_so_b (T : Nat → Int) (n f : Nat) : 0 ≤ tk_so T n f ∧ tk_so T n f ≤ 5 := by
  unfold tk_so
  by_cases h : n ≤ f
  · rw [if_pos h]; omega
  · rw [if_neg h]
    have h2 := tk_ty_c (T f)
    omega
theorem tk_so_0 {T : Nat → Int} {n f : Nat} : tk_so T n f = 0 ↔ n ≤ f := by
  unfold tk_so
  by_cases h : n ≤ f
  · rw [if_pos h]; exact ⟨fun _ => h, fun _ => rfl⟩
  · rw [if_neg h]
    have h2 := tk_ty_c (T f)
    exact ⟨fun e => by omega, fun e => absurd e h⟩
theorem tk_to_b {T : Nat → Int} {n f : Nat} (h : f ≤ n) : f ≤ tk_to T n f ∧ tk_to T n f ≤ n ∧ (f < n → f < tk_to T n f) := by
  unfold tk_to
  by_cases e : n ≤ f
  · rw [if_pos e]; omega
  · rw [if_neg e]
    by_cases e2 : tk_ty (T f) = 1 ∨ tk_ty (T f) = 2
    · rw [if_pos e2]
      have h2 := tk_rn_b (P := fun c => decide (tk_ty c = tk_ty (T f))) (T := T) (n := n) (p := f + 1) (by omega)
      omega
    · rw [if_neg e2]; omega
theorem tk_at_b {T : Nat → Int} {n p : Nat} (h : p ≤ n) : p ≤ tk_at T n p ∧ tk_at T n p ≤ n := tk_rn_b h
theorem tk_nx_b {T : Nat → Int} {n f : Nat} (h : f ≤ n) : f ≤ tk_nx T n f ∧ tk_nx T n f ≤ n ∧ (f < n → f < tk_nx T n f) := by
  have h1 := tk_to_b (T := T) h
  have h2 := tk_at_b (T := T) (n := n) (p := tk_to T n f) (by omega)
  unfold tk_nx
  omega
/-- the bytes from f are w -/
def tk_eq (T : Nat → Int) : Nat → List Int → Bool
  | _, [] => true
  | f, a :: w => decide (T f = a) && tk_eq T (f + 1) w
theorem tk_eq_u {T : Nat → Int} : ∀ (w v : List Int) (f : Nat), w.length = v.length → tk_eq T f w = true → tk_eq T f v = true → w = v
  | [], [], _, _, _, _ => rfl
  | [], _ :: _, _, h, _, _ => by simp at h
  | _ :: _, [], _, h, _, _ => by simp at h
  | a :: w, b :: v, f, h, h1, h2 => by
    simp only [tk_eq, Bool.and_eq_true, decide_eq_true_eq] at h1 h2
    rw [← h1.1, ← h2.1, tk_eq_u w v (f + 1) (by simpa using h) h1.2 h2.2]
theorem tk_eq_i {T : Nat → Int} : ∀ (w : List Int) (f : Nat), tk_eq T f w = true ↔ ∀ j, j < w.length → T (f + j) = w.getD j 0
  | [], _ => ⟨fun _ j h => absurd h (Nat.not_lt_zero j), fun _ => rfl⟩
  | a :: w, f => by
    simp only [tk_eq, Bool.and_eq_true, decide_eq_true_eq]
    rw [tk_eq_i w (f + 1)]
    constructor
    · intro h j hj
      cases j with
      | zero => exact h.1
      | succ j =>
        have h3 := h.2 j (by simpa using hj)
        rw [show f + (j + 1) = f + 1 + j by omega, h3]
        rfl
    · intro h
      refine ⟨h 0 (by simp), fun j hj => ?_⟩
      have h3 := h (j + 1) (by simpa using hj)
      rw [show f + (j + 1) = f + 1 + j by omega] at h3
      rw [h3]
      rfl
/-- the token at f is the word w -/
def tk_is (T : Nat → Int) (n f : Nat) (w : List Int) : Bool := decide (tk_so T n f = 1) && (decide (tk_to T n f = f + w.length) && tk_eq T f w)
theorem tk_is_u {T : Nat → Int} {n f : Nat} {w v : List Int} (h1 : tk_is T n f w = true) (h2 : tk_is T n f v = true) : w = v := by
  simp only [tk_is, Bool.and_eq_true, decide_eq_true_eq] at h1 h2
  exact tk_eq_u w v f (by omega) h1.2.2 h2.2.2
/-- the known words -/
def tk_kw (i : Nat) : List Int := ([[115, 108, 111, 112, 101], [108, 97, 121, 101, 114], [104, 111, 117, 114], [115, 110, 111, 119], [114, 97, 105, 110], [104, 111, 97, 114], [115, 116, 114, 111, 110, 103], [104, 111, 108, 100, 115], [115, 116, 105, 102, 102], [112, 111, 119, 100, 101, 114], [103, 114, 97, 105, 110, 115], [102, 97, 99, 101, 116, 115], [99, 114, 117, 115, 116]] : List (List Int)).getD i []
/-- which known word the token is; -1: none -/
def tk_w (T : Nat → Int) (n f : Nat) : Int := if tk_is T n f (tk_kw 0) = true then 0 else if tk_is T n f (tk_kw 1) = true then 1 else if tk_is T n f (tk_kw 2) = true then 2 else if tk_is T n f (tk_kw 3) = true then 3 else if tk_is T n f (tk_kw 4) = true then 4 else if tk_is T n f (tk_kw 5) = true then 5 else if tk_is T n f (tk_kw 6) = true then 6 else if tk_is T n f (tk_kw 7) = true then 7 else if tk_is T n f (tk_kw 8) = true then 8 else if tk_is T n f (tk_kw 9) = true then 9 else if tk_is T n f (tk_kw 10) = true then 10 else if tk_is T n f (tk_kw 11) = true then 11 else if tk_is T n f (tk_kw 12) = true then 12 else -1
theorem tk_kw_ne : ∀ i j : Fin 13, i ≠ j → tk_kw i.val ≠ tk_kw j.val := by decide
theorem tk_w_is {T : Nat → Int} {n f : Nat} (i : Nat) (hi : i < 13) : tk_is T n f (tk_kw i) = true ↔ tk_w T n f = (i : Int) := by
  have hu : ∀ j, j < 13 → j ≠ i → tk_is T n f (tk_kw i) = true → ¬ tk_is T n f (tk_kw j) = true := fun j hj hn h1 h2 => tk_kw_ne ⟨j, hj⟩ ⟨i, hi⟩ (fun e => hn (Fin.mk.inj e)) (tk_is_u h2 h1)
  have hw : ∀ k : Int, tk_w T n f = k → (∃ j : Nat, j < 13 ∧ k = (j : Int) ∧ tk_is T n f (tk_kw j) = true) ∨ k = -1 := by
    intro k hk
    unfold tk_w at hk
    by_cases e0 : tk_is T n f (tk_kw 0) = true
    · rw [if_pos e0] at hk; exact Or.inl ⟨0, by decide, hk.symm, e0⟩
    by_cases e1 : tk_is T n f (tk_kw 1) = true
    · rw [if_neg e0, if_pos e1] at hk; exact Or.inl ⟨1, by decide, hk.symm, e1⟩
    by_cases e2 : tk_is T n f (tk_kw 2) = true
    · rw [if_neg e0, if_neg e1, if_pos e2] at hk; exact Or.inl ⟨2, by decide, hk.symm, e2⟩
    by_cases e3 : tk_is T n f (tk_kw 3) = true
    · rw [if_neg e0, if_neg e1, if_neg e2, if_pos e3] at hk; exact Or.inl ⟨3, by decide, hk.symm, e3⟩
    by_cases e4 : tk_is T n f (tk_kw 4) = true
    · rw [if_neg e0, if_neg e1, if_neg e2, if_neg e3, if_pos e4] at hk; exact Or.inl ⟨4, by decide, hk.symm, e4⟩
    by_cases e5 : tk_is T n f (tk_kw 5) = true
    · rw [if_neg e0, if_neg e1, if_neg e2, if_neg e3, if_neg e4, if_pos e5] at hk; exact Or.inl ⟨5, by decide, hk.symm, e5⟩
    by_cases e6 : tk_is T n f (tk_kw 6) = true
    · rw [if_neg e0, if_neg e1, if_neg e2, if_neg e3, if_neg e4, if_neg e5, if_pos e6] at hk; exact Or.inl ⟨6, by decide, hk.symm, e6⟩
    by_cases e7 : tk_is T n f (tk_kw 7) = true
    · rw [if_neg e0, if_neg e1, if_neg e2, if_neg e3, if_neg e4, if_neg e5, if_neg e6, if_pos e7] at hk; exact Or.inl ⟨7, by decide, hk.symm, e7⟩
    by_cases e8 : tk_is T n f (tk_kw 8) = true
    · rw [if_neg e0, if_neg e1, if_neg e2, if_neg e3, if_neg e4, if_neg e5, if_neg e6, if_neg e7, if_pos e8] at hk; exact Or.inl ⟨8, by decide, hk.symm, e8⟩
    by_cases e9 : tk_is T n f (tk_kw 9) = true
    · rw [if_neg e0, if_neg e1, if_neg e2, if_neg e3, if_neg e4, if_neg e5, if_neg e6, if_neg e7, if_neg e8, if_pos e9] at hk; exact Or.inl ⟨9, by decide, hk.symm, e9⟩
    by_cases e10 : tk_is T n f (tk_kw 10) = true
    · rw [if_neg e0, if_neg e1, if_neg e2, if_neg e3, if_neg e4, if_neg e5, if_neg e6, if_neg e7, if_neg e8, if_neg e9, if_pos e10] at hk; exact Or.inl ⟨10, by decide, hk.symm, e10⟩
    by_cases e11 : tk_is T n f (tk_kw 11) = true
    · rw [if_neg e0, if_neg e1, if_neg e2, if_neg e3, if_neg e4, if_neg e5, if_neg e6, if_neg e7, if_neg e8, if_neg e9, if_neg e10, if_pos e11] at hk; exact Or.inl ⟨11, by decide, hk.symm, e11⟩
    by_cases e12 : tk_is T n f (tk_kw 12) = true
    · rw [if_neg e0, if_neg e1, if_neg e2, if_neg e3, if_neg e4, if_neg e5, if_neg e6, if_neg e7, if_neg e8, if_neg e9, if_neg e10, if_neg e11, if_pos e12] at hk; exact Or.inl ⟨12, by decide, hk.symm, e12⟩
    rw [if_neg e0, if_neg e1, if_neg e2, if_neg e3, if_neg e4, if_neg e5, if_neg e6, if_neg e7, if_neg e8, if_neg e9, if_neg e10, if_neg e11, if_neg e12] at hk
    exact Or.inr hk.symm
  constructor
  · intro h
    rcases hw _ rfl with ⟨j, hj, e1, e2⟩ | e
    · by_cases e3 : j = i
      · rw [e1, e3]
      · exact absurd e2 (hu j hj e3 h)
    · exfalso
      unfold tk_w at e
      have hc : ∃ j : Fin 13, j.val = i := ⟨⟨i, hi⟩, rfl⟩
      by_cases e0 : tk_is T n f (tk_kw 0) = true
      · rw [if_pos e0] at e; exact absurd e (by decide)
      by_cases e1 : tk_is T n f (tk_kw 1) = true
      · rw [if_neg e0, if_pos e1] at e; exact absurd e (by decide)
      by_cases e2 : tk_is T n f (tk_kw 2) = true
      · rw [if_neg e0, if_neg e1, if_pos e2] at e; exact absurd e (by decide)
      by_cases e3 : tk_is T n f (tk_kw 3) = true
      · rw [if_neg e0, if_neg e1, if_neg e2, if_pos e3] at e; exact absurd e (by decide)
      by_cases e4 : tk_is T n f (tk_kw 4) = true
      · rw [if_neg e0, if_neg e1, if_neg e2, if_neg e3, if_pos e4] at e; exact absurd e (by decide)
      by_cases e5 : tk_is T n f (tk_kw 5) = true
      · rw [if_neg e0, if_neg e1, if_neg e2, if_neg e3, if_neg e4, if_pos e5] at e; exact absurd e (by decide)
      by_cases e6 : tk_is T n f (tk_kw 6) = true
      · rw [if_neg e0, if_neg e1, if_neg e2, if_neg e3, if_neg e4, if_neg e5, if_pos e6] at e; exact absurd e (by decide)
      by_cases e7 : tk_is T n f (tk_kw 7) = true
      · rw [if_neg e0, if_neg e1, if_neg e2, if_neg e3, if_neg e4, if_neg e5, if_neg e6, if_pos e7] at e; exact absurd e (by decide)
      by_cases e8 : tk_is T n f (tk_kw 8) = true
      · rw [if_neg e0, if_neg e1, if_neg e2, if_neg e3, if_neg e4, if_neg e5, if_neg e6, if_neg e7, if_pos e8] at e; exact absurd e (by decide)
      by_cases e9 : tk_is T n f (tk_kw 9) = true
      · rw [if_neg e0, if_neg e1, if_neg e2, if_neg e3, if_neg e4, if_neg e5, if_neg e6, if_neg e7, if_neg e8, if_pos e9] at e; exact absurd e (by decide)
      by_cases e10 : tk_is T n f (tk_kw 10) = true
      · rw [if_neg e0, if_neg e1, if_neg e2, if_neg e3, if_neg e4, if_neg e5, if_neg e6, if_neg e7, if_neg e8, if_neg e9, if_pos e10] at e; exact absurd e (by decide)
      by_cases e11 : tk_is T n f (tk_kw 11) = true
      · rw [if_neg e0, if_neg e1, if_neg e2, if_neg e3, if_neg e4, if_neg e5, if_neg e6, if_neg e7, if_neg e8, if_neg e9, if_neg e10, if_pos e11] at e; exact absurd e (by decide)
      by_cases e12 : tk_is T n f (tk_kw 12) = true
      · rw [if_neg e0, if_neg e1, if_neg e2, if_neg e3, if_neg e4, if_neg e5, if_neg e6, if_neg e7, if_neg e8, if_neg e9, if_neg e10, if_neg e11, if_pos e12] at e; exact absurd e (by decide)
      rcases (show i = 0 ∨ i = 1 ∨ i = 2 ∨ i = 3 ∨ i = 4 ∨ i = 5 ∨ i = 6 ∨ i = 7 ∨ i = 8 ∨ i = 9 ∨ i = 10 ∨ i = 11 ∨ i = 12 by omega) with rfl | rfl | rfl | rfl | rfl | rfl | rfl | rfl | rfl | rfl | rfl | rfl | rfl
      · exact e0 h
      · exact e1 h
      · exact e2 h
      · exact e3 h
      · exact e4 h
      · exact e5 h
      · exact e6 h
      · exact e7 h
      · exact e8 h
      · exact e9 h
      · exact e10 h
      · exact e11 h
      · exact e12 h
  · intro h
    rcases hw _ rfl with ⟨j, hj, e1, e2⟩ | e
    · have e3 : j = i := by omega
      rw [← e3]; exact e2
    · omega
/-- the value of k digits from f -/
def tk_dv (T : Nat → Int) (f : Nat) : Nat → Int
  | 0 => 0
  | k + 1 => 10 * tk_dv T f k + T (f + k) - 48
/-- the number at f; of more than four digits 99999 -/
def tk_va (T : Nat → Int) (n f : Nat) : Int := if tk_to T n f - f ≤ 4 then tk_dv T f (tk_to T n f - f) else 99999
/-- a number from lo to hi, and where the next token begins: or a fault and its place -/
def tk_nu (T : Nat → Int) (n : Nat) (lo hi : Int) (f : Nat) : Except (Int × Nat) (Int × Nat) := if tk_so T n f ≠ 2 then .error (1, f) else if ¬ (lo ≤ tk_va T n f ∧ tk_va T n f ≤ hi) then .error (2, f) else .ok (tk_va T n f, tk_nx T n f)
/-- the kind that the token names; -1: none -/
def tk_kd (T : Nat → Int) (n f : Nat) : Int := if tk_w T n f = 5 then 4 else if 9 ≤ tk_w T n f then tk_w T n f - 9 else -1
/-- the fall that the token names; 0: none -/
def tk_fa (T : Nat → Int) (n f : Nat) : Int := if 3 ≤ tk_w T n f ∧ tk_w T n f ≤ 5 then tk_w T n f - 2 else 0
/-- a clause: what it tells, and where the token behind it begins; or a fault and its place. sl: how many slopes, ho: hours, mn: layers of each, td: places of the table that are told -/
def cl_slope (T : Nat → Int) (n : Nat) (sl : Int) (f : Nat) : Except (Int × Nat) ((Int × Int) × Nat) := if 4 ≤ sl then .error (2, f) else match tk_nu T n 0 90 (tk_nx T n f) with
  | .error e => .error e
  | .ok a => match tk_nu T n 0 20 a.2 with
    | .error e => .error e
    | .ok b => .ok ((a.1, b.1), b.2)
def cl_hour2 (T : Nat → Int) (n : Nat) (a : Int) (f : Nat) : Except (Int × Nat) ((Int × Int × Int) × Nat) := if tk_fa T n f = 0 then .ok ((a, 0, 0), f) else if tk_fa T n f = 3 then .ok ((a, tk_fa T n f, 0), tk_nx T n f) else match tk_nu T n 1 50 (tk_nx T n f) with
  | .error e => .error e
  | .ok b => .ok ((a, tk_fa T n f, b.1), b.2)
def cl_hour (T : Nat → Int) (n : Nat) (ho : Int) (f : Nat) : Except (Int × Nat) ((Int × Int × Int) × Nat) := if 24 ≤ ho then .error (2, f) else if tk_so T n (tk_nx T n f) = 4 then match tk_nu T n 0 300 (tk_nx T n (tk_nx T n f)) with
  | .error e => .error e
  | .ok a => cl_hour2 T n (-a.1) a.2
  else match tk_nu T n 0 100 (tk_nx T n f) with
  | .error e => .error e
  | .ok a => cl_hour2 T n a.1 a.2
def cl_table (T : Nat → Int) (n : Nat) (td : Nat → Int) (row lo hi : Int) (f : Nat) : Except (Int × Nat) ((Int × Int) × Nat) := if tk_kd T n (tk_nx T n f) = -1 then .error (1, tk_nx T n f) else if td (row + tk_kd T n (tk_nx T n f)).toNat = 1 then .error (4, tk_nx T n f) else match tk_nu T n lo hi (tk_nx T n (tk_nx T n f)) with
  | .error e => .error e
  | .ok a => .ok ((row + tk_kd T n (tk_nx T n f), a.1), a.2)
def cl_layer2 (T : Nat → Int) (n : Nat) (s k : Int) (f : Nat) : Except (Int × Nat) ((Int × Int × Int × Int × Int × Int) × Nat) := match tk_nu T n 1 99 f with
  | .error e => .error e
  | .ok i => match tk_nu T n 0 99 i.2 with
    | .error e => .error e
    | .ok w => match tk_nu T n 1 999 w.2 with
      | .error e => .error e
      | .ok d => if d.1 < i.1 + w.1 then .error (5, w.2) else match tk_nu T n 0 300 d.2 with
        | .error e => .error e
        | .ok c => .ok ((s, k, i.1, w.1, d.1, -c.1), c.2)
def cl_layer (T : Nat → Int) (n : Nat) (sl : Int) (mn : Nat → Int) (f : Nat) : Except (Int × Nat) ((Int × Int × Int × Int × Int × Int) × Nat) := match tk_nu T n 0 3 (tk_nx T n f) with
  | .error e => .error e
  | .ok s => if sl ≤ s.1 then .error (3, tk_nx T n f) else if 12 ≤ mn s.1.toNat then .error (2, tk_nx T n f) else if tk_kd T n s.2 = -1 then .error (1, s.2) else cl_layer2 T n s.1 (tk_kd T n s.2) (tk_nx T n s.2)
/-- and the semicolon behind it -/
def cl_fin {a : Type} (T : Nat → Int) (n : Nat) (x : Except (Int × Nat) (a × Nat)) : Except (Int × Nat) (a × Nat) := match x with
  | .error e => .error e
  | .ok v => if tk_so T n v.2 = 3 then .ok (v.1, tk_nx T n v.2) else .error (1, v.2)
end
section
-- 70n4.xread.lean.txt
/-- the class's tape: the bytes of T, signed -/
def xT (tp T : Nat → Int) : Prop := ∀ k, k < 900 → (0 ≤ T k ∧ T k ≤ 255) ∧ (-128 ≤ tp k ∧ tp k ≤ 127) ∧ (tp k = T k ∨ tp k = T k - 256)
theorem xT.ty {tp T : Nat → Int} (h : xT tp T) {k : Nat} (hk : k < 900) : tk_ty (tp k) = tk_ty (T k) := by
  have h1 := h k hk
  have h2 := tk_ty_c (tp k)
  have h3 := tk_ty_c (T k)
  omega
theorem xT.bl {tp T : Nat → Int} (h : xT tp T) {k : Nat} (hk : k < 900) : tk_bl (T k) = true ↔ (tp k = 32 ∨ tp k = 10) := by
  have h1 := h k hk
  unfold tk_bl
  rw [decide_eq_true_eq]
  omega
theorem xT.nb {tp T : Nat → Int} (h : xT tp T) {k : Nat} (hk : k < 900) (hb : ¬ (tp k = 32 ∨ tp k = 10)) : tk_bl (T k) = false := Bool.eq_false_iff.mpr (fun e => hb ((h.bl hk).mp e))
theorem rdC_c {ad : Nat → Nat} {pl co en ty a9 be tk td ty' a9' be' : Int} (h1 : ty = ty') (h2 : a9 = a9') (h3 : be = be') : rdC ad pl co en ty a9 be tk td = rdC ad pl co en ty' a9' be' tk td := by rw [h1, h2, h3]
set_option maxRecDepth 100000 in
set_option maxHeartbeats 4000000 in
theorem c_xType (l : Launch) (D : va_G) (A : Nat → Prop) (cs : Nat → ClassId) (tt : Nat) (N : Nat) (ad : Nat → Nat) (g : Nat → va_E) (z : Int) (hz : -2147483648 ≤ z ∧ z ≤ 2147483647) : zM l yX7_typeOf cX7_typeOf 1 (some .int) ({ frames := 1, cells := 0, slots := 0, locals := 60 } : Room) D A cs tt N ad g [.int (zI (z))] (rI0 N ad fun r g' => r = tk_ty z ∧ g = g') := by
  refine z_of (by decide) (Nat.le_of_ble_eq_true rfl) ?_
  intro p e s m below meth c C hr hlk hnm
  refine z_lv (lv' := [(0, .int (zI (z)))]) [0] rfl ?_
  refine z_iload_n C 0 dX7_typeOf_0 rfl ?_
  refine z_bipush (z := 97) C dX7_typeOf_1 (by decide) ?_
  refine z_icmp_lt (tgt := 14) C dX7_typeOf_3 (by decide) (by omega) (by omega) (fun hby1 => ?_) (fun hby1 => ?_)
  · refine z_iload_n C 0 dX7_typeOf_14 rfl ?_
    refine z_bipush (z := 48) C dX7_typeOf_15 (by decide) ?_
    refine z_icmp_lt (tgt := 28) C dX7_typeOf_17 (by decide) (by omega) (by omega) (fun hby2 => ?_) (fun hby2 => ?_)
    · refine z_iload_n C 0 dX7_typeOf_28 rfl ?_
      refine z_bipush (z := 59) C dX7_typeOf_29 (by decide) ?_
      refine z_icmp_ne (tgt := 38) C dX7_typeOf_31 (by decide) (by omega) (by omega) (fun hby3 => ?_) (fun hby3 => ?_)
      · refine z_iload_n C 0 dX7_typeOf_38 rfl ?_
        refine z_bipush (z := 45) C dX7_typeOf_39 (by decide) ?_
        refine z_icmp_ne (tgt := 48) C dX7_typeOf_41 (by decide) (by omega) (by omega) (fun hby4 => ?_) (fun hby4 => ?_)
        · refine z_iconst (z := 5) C dX7_typeOf_48 rfl ?_
          have hty := tk_ty_c z
          exact z_iret C hr hlk dX7_typeOf_49 (by decide) (by decide) ⟨5, rfl, rfl, rfl, by omega, rfl⟩
        · refine z_iconst (z := 4) C dX7_typeOf_44 rfl ?_
          refine z_goto (tgt := 49) C dX7_typeOf_45 (by decide) ?_
          have hty := tk_ty_c z
          exact z_iret C hr hlk dX7_typeOf_49 (by decide) (by decide) ⟨4, rfl, rfl, rfl, by omega, rfl⟩
      · refine z_iconst (z := 3) C dX7_typeOf_34 rfl ?_
        refine z_goto (tgt := 49) C dX7_typeOf_35 (by decide) ?_
        have hty := tk_ty_c z
        exact z_iret C hr hlk dX7_typeOf_49 (by decide) (by decide) ⟨3, rfl, rfl, rfl, by omega, rfl⟩
    · refine z_iload_n C 0 dX7_typeOf_20 rfl ?_
      refine z_bipush (z := 57) C dX7_typeOf_21 (by decide) ?_
      refine z_icmp_gt (tgt := 28) C dX7_typeOf_23 (by decide) (by omega) (by omega) (fun hby5 => ?_) (fun hby5 => ?_)
      · refine z_iload_n C 0 dX7_typeOf_28 rfl ?_
        refine z_bipush (z := 59) C dX7_typeOf_29 (by decide) ?_
        refine z_icmp_ne (tgt := 38) C dX7_typeOf_31 (by decide) (by omega) (by omega) (fun hby6 => ?_) (fun hby6 => ?_)
        · refine z_iload_n C 0 dX7_typeOf_38 rfl ?_
          refine z_bipush (z := 45) C dX7_typeOf_39 (by decide) ?_
          refine z_icmp_ne (tgt := 48) C dX7_typeOf_41 (by decide) (by omega) (by omega) (fun hby7 => ?_) (fun hby7 => ?_)
          · refine z_iconst (z := 5) C dX7_typeOf_48 rfl ?_
            have hty := tk_ty_c z
            exact z_iret C hr hlk dX7_typeOf_49 (by decide) (by decide) ⟨5, rfl, rfl, rfl, by omega, rfl⟩
          · refine z_iconst (z := 4) C dX7_typeOf_44 rfl ?_
            refine z_goto (tgt := 49) C dX7_typeOf_45 (by decide) ?_
            have hty := tk_ty_c z
            exact z_iret C hr hlk dX7_typeOf_49 (by decide) (by decide) ⟨4, rfl, rfl, rfl, by omega, rfl⟩
        · refine z_iconst (z := 3) C dX7_typeOf_34 rfl ?_
          refine z_goto (tgt := 49) C dX7_typeOf_35 (by decide) ?_
          have hty := tk_ty_c z
          exact z_iret C hr hlk dX7_typeOf_49 (by decide) (by decide) ⟨3, rfl, rfl, rfl, by omega, rfl⟩
      · refine z_iconst (z := 2) C dX7_typeOf_26 rfl ?_
        have hty := tk_ty_c z
        exact z_iret C hr hlk dX7_typeOf_27 (by decide) (by decide) ⟨2, rfl, rfl, rfl, by omega, rfl⟩
  · refine z_iload_n C 0 dX7_typeOf_6 rfl ?_
    refine z_bipush (z := 122) C dX7_typeOf_7 (by decide) ?_
    refine z_icmp_gt (tgt := 14) C dX7_typeOf_9 (by decide) (by omega) (by omega) (fun hby8 => ?_) (fun hby8 => ?_)
    · refine z_iload_n C 0 dX7_typeOf_14 rfl ?_
      refine z_bipush (z := 48) C dX7_typeOf_15 (by decide) ?_
      refine z_icmp_lt (tgt := 28) C dX7_typeOf_17 (by decide) (by omega) (by omega) (fun hby9 => ?_) (fun hby9 => ?_)
      · refine z_iload_n C 0 dX7_typeOf_28 rfl ?_
        refine z_bipush (z := 59) C dX7_typeOf_29 (by decide) ?_
        refine z_icmp_ne (tgt := 38) C dX7_typeOf_31 (by decide) (by omega) (by omega) (fun hby10 => ?_) (fun hby10 => ?_)
        · refine z_iload_n C 0 dX7_typeOf_38 rfl ?_
          refine z_bipush (z := 45) C dX7_typeOf_39 (by decide) ?_
          refine z_icmp_ne (tgt := 48) C dX7_typeOf_41 (by decide) (by omega) (by omega) (fun hby11 => ?_) (fun hby11 => ?_)
          · refine z_iconst (z := 5) C dX7_typeOf_48 rfl ?_
            have hty := tk_ty_c z
            exact z_iret C hr hlk dX7_typeOf_49 (by decide) (by decide) ⟨5, rfl, rfl, rfl, by omega, rfl⟩
          · refine z_iconst (z := 4) C dX7_typeOf_44 rfl ?_
            refine z_goto (tgt := 49) C dX7_typeOf_45 (by decide) ?_
            have hty := tk_ty_c z
            exact z_iret C hr hlk dX7_typeOf_49 (by decide) (by decide) ⟨4, rfl, rfl, rfl, by omega, rfl⟩
        · refine z_iconst (z := 3) C dX7_typeOf_34 rfl ?_
          refine z_goto (tgt := 49) C dX7_typeOf_35 (by decide) ?_
          have hty := tk_ty_c z
          exact z_iret C hr hlk dX7_typeOf_49 (by decide) (by decide) ⟨3, rfl, rfl, rfl, by omega, rfl⟩
      · refine z_iload_n C 0 dX7_typeOf_20 rfl ?_
        refine z_bipush (z := 57) C dX7_typeOf_21 (by decide) ?_
        refine z_icmp_gt (tgt := 28) C dX7_typeOf_23 (by decide) (by omega) (by omega) (fun hby12 => ?_) (fun hby12 => ?_)
        · refine z_iload_n C 0 dX7_typeOf_28 rfl ?_
          refine z_bipush (z := 59) C dX7_typeOf_29 (by decide) ?_
          refine z_icmp_ne (tgt := 38) C dX7_typeOf_31 (by decide) (by omega) (by omega) (fun hby13 => ?_) (fun hby13 => ?_)
          · refine z_iload_n C 0 dX7_typeOf_38 rfl ?_
            refine z_bipush (z := 45) C dX7_typeOf_39 (by decide) ?_
            refine z_icmp_ne (tgt := 48) C dX7_typeOf_41 (by decide) (by omega) (by omega) (fun hby14 => ?_) (fun hby14 => ?_)
            · refine z_iconst (z := 5) C dX7_typeOf_48 rfl ?_
              have hty := tk_ty_c z
              exact z_iret C hr hlk dX7_typeOf_49 (by decide) (by decide) ⟨5, rfl, rfl, rfl, by omega, rfl⟩
            · refine z_iconst (z := 4) C dX7_typeOf_44 rfl ?_
              refine z_goto (tgt := 49) C dX7_typeOf_45 (by decide) ?_
              have hty := tk_ty_c z
              exact z_iret C hr hlk dX7_typeOf_49 (by decide) (by decide) ⟨4, rfl, rfl, rfl, by omega, rfl⟩
          · refine z_iconst (z := 3) C dX7_typeOf_34 rfl ?_
            refine z_goto (tgt := 49) C dX7_typeOf_35 (by decide) ?_
            have hty := tk_ty_c z
            exact z_iret C hr hlk dX7_typeOf_49 (by decide) (by decide) ⟨3, rfl, rfl, rfl, by omega, rfl⟩
        · refine z_iconst (z := 2) C dX7_typeOf_26 rfl ?_
          have hty := tk_ty_c z
          exact z_iret C hr hlk dX7_typeOf_27 (by decide) (by decide) ⟨2, rfl, rfl, rfl, by omega, rfl⟩
    · refine z_iconst (z := 1) C dX7_typeOf_12 rfl ?_
      have hty := tk_ty_c z
      exact z_iret C hr hlk dX7_typeOf_13 (by decide) (by decide) ⟨1, rfl, rfl, rfl, by omega, rfl⟩

set_option maxRecDepth 100000 in
set_option maxHeartbeats 4000000 in
theorem c_xPeek (l : Launch) (D : va_G) (A : Nat → Prop) (cs : Nat → ClassId) (tt : Nat) (N : Nat) (ad : Nat → Nat) (g : Nat → va_E) (hN : 952 ≤ N) (pl co ty a9 tk td : Int) (tp T : Nat → Int) (hT : xT tp T) (n : Nat) (hn : n ≤ 900) (q0 : Nat) (hp : q0 ≤ n) (hg2 : g 2 = rdC ad (pl) (co) ((n : Int)) (ty) (a9) ((q0 : Int)) (tk) (td)) (hg1 : g 1 = bA cs 900 tp) : zM l yX7_peek cX7_peek 1 none ({ frames := 2, cells := 0, slots := 0, locals := 120 } : Room) D A cs tt N ad g [.ref (ad 2)] (rV0 N ad fun g' => g' 2 = rdC ad pl co (n : Int) (tk_so T n (tk_at T n q0)) ((tk_at T n q0 : Nat) : Int) ((tk_to T n (tk_at T n q0) : Nat) : Int) tk td ∧ ∀ j, j ≠ 2 → g' j = g j) := by
  have hay1 : zAt ad (2) (ad 2) := rfl
  have hay2 : zAt ad (1) (ad 1) := rfl
  have hTr : ∀ k, k < 900 → -128 ≤ tp k ∧ tp k ≤ 127 := fun k hk => (hT k hk).2.1
  refine z_of (by decide) (Nat.le_of_ble_eq_true rfl) ?_
  intro p e s m below meth c C hr hlk hnm
  refine z_lv (lv' := [(0, .ref (ad 2))]) [0] rfl ?_
  refine z_aload_n C 0 dX7_peek_0 rfl ?_
  refine z_aload_n C 0 dX7_peek_1 rfl ?_
  refine z_get (v := .int (zI ((q0 : Int)))) C (lt_K hN (rfl : Nat.blt (2) 952 = true)) hay1 hg2 rfl inA_X7 6 (by decide) q_50 rfl rfl dX7_peek_2 ?_
  refine z_put (fs' := [.int (zI (pl)), .int (zI (co)), .ref (ad 1), .int (zI ((n : Int))), .int (zI (ty)), .int (zI ((q0 : Int))), .int (zI ((q0 : Int))), .int (zI (tk)), .int (zI (td))]) C (lt_K hN (rfl : Nat.blt (2) 952 = true)) hay1 hg2 tyX7 tyX7_ok nmX7 rfl inA_X7 5 (by decide) q_49 rfl rfl rfl rfl (Nat.le_of_ble_eq_true rfl) rfl dX7_peek_5 (fun gy3 egy4 => ?_)
  have hgy5 := up_s egy4
  have lp8 : ∀ (n9 : Nat) (a8 : Int) (na : Nat) (g1 : Nat → va_E), ((n : Int) - a8).toNat = n9 → (g1 2 = rdC ad (pl) (co) ((n : Int)) (ty) (a8) ((q0 : Int)) (tk) (td)) → (∀ j, j ≠ 2 → g1 j = g j) → (a8 = (na : Int)) → (q0 ≤ na ∧ na ≤ n) → (tk_at T n na = tk_at T n q0) → zV p l e ({ frames := 2, cells := 0, slots := 0, locals := 120 } : Room) s m ([.ref (ad 2)] : List Value).toArray below meth c (MQ below (zPost D A (rV0 N ad fun g' => g' 2 = rdC ad pl co (n : Int) (tk_so T n (tk_at T n q0)) ((tk_at T n q0 : Nat) : Int) ((tk_to T n (tk_at T n q0) : Nat) : Int) tk td ∧ ∀ j, j ≠ 2 → g' j = g j)) ([.ref (ad 2)] : List Value).toArray s ({ frames := 2, cells := 0, slots := 0, locals := 120 } : Room).cells ({ frames := 2, cells := 0, slots := 0, locals := 120 } : Room).slots A) D A 1 (N) ad g1 (0) (0) 8 [(0, .ref (ad 2))] [] := by
    intro n9
    induction n9 using Nat.strongRecOn with
    | ind n9 ih_lp8 =>
      intro a8 na g1 hm9 f1 f3 h1 h2 hi
      have hay6 : zAt ad (2) (ad 2) := rfl
      have hay7 : zAt ad (1) (ad 1) := rfl
      refine z_aload_n C 0 dX7_peek_8 rfl ?_
      refine z_get (v := .int (zI (a8))) C (lt_K hN (rfl : Nat.blt (2) 952 = true)) hay6 f1 rfl inA_X7 5 (by decide) q_49 rfl rfl dX7_peek_9 ?_
      refine z_aload_n C 0 dX7_peek_12 rfl ?_
      refine z_get (v := .int (zI ((n : Int)))) C (lt_K hN (rfl : Nat.blt (2) 952 = true)) hay6 f1 rfl inA_X7 3 (by decide) q_47 rfl rfl dX7_peek_13 ?_
      refine z_icmp_ge (tgt := 60) C dX7_peek_16 (by decide) (by omega) (by omega) (fun hby8 => ?_) (fun hby8 => ?_)
      · refine z_aload_n C 0 dX7_peek_60 rfl ?_
        refine z_aload_n C 0 dX7_peek_61 rfl ?_
        refine z_get (v := .int (zI (a8))) C (lt_K hN (rfl : Nat.blt (2) 952 = true)) hay6 f1 rfl inA_X7 5 (by decide) q_49 rfl rfl dX7_peek_62 ?_
        refine z_aload_n C 0 dX7_peek_65 rfl ?_
        refine z_get (v := .int (zI ((n : Int)))) C (lt_K hN (rfl : Nat.blt (2) 952 = true)) hay6 f1 rfl inA_X7 3 (by decide) q_47 rfl rfl dX7_peek_66 ?_
        refine z_icmp_ge (tgt := 87) C dX7_peek_69 (by decide) (by omega) (by omega) (fun hby9 => ?_) (fun hby9 => ?_)
        · refine z_iconst (z := 0) C dX7_peek_87 rfl ?_
          refine z_put (fs' := [.int (zI (pl)), .int (zI (co)), .ref (ad 1), .int (zI ((n : Int))), .int (zI (0)), .int (zI (a8)), .int (zI ((q0 : Int))), .int (zI (tk)), .int (zI (td))]) C (lt_K hN (rfl : Nat.blt (2) 952 = true)) hay6 f1 tyX7 tyX7_ok nmX7 rfl inA_X7 4 (by decide) q_48 rfl rfl rfl rfl (Nat.le_of_ble_eq_true rfl) rfl dX7_peek_88 (fun gy10 egy11 => ?_)
          have hgy12 := up_s egy11
          refine z_aload_n C 0 dX7_peek_91 rfl ?_
          refine z_aload_n C 0 dX7_peek_92 rfl ?_
          refine z_get (v := .int (zI (a8))) C (lt_K hN (rfl : Nat.blt (2) 952 = true)) hay6 hgy12 rfl inA_X7 5 (by decide) q_49 rfl rfl dX7_peek_93 ?_
          refine z_aload_n C 0 dX7_peek_96 rfl ?_
          refine z_get (v := .int (zI ((n : Int)))) C (lt_K hN (rfl : Nat.blt (2) 952 = true)) hay6 hgy12 rfl inA_X7 3 (by decide) q_47 rfl rfl dX7_peek_97 ?_
          refine z_icmp_ge (tgt := 112) C dX7_peek_100 (by decide) (by omega) (by omega) (fun hby13 => ?_) (fun hby13 => ?_)
          · refine z_aload_n C 0 dX7_peek_112 rfl ?_
            refine z_get (v := .int (zI ((n : Int)))) C (lt_K hN (rfl : Nat.blt (2) 952 = true)) hay6 hgy12 rfl inA_X7 3 (by decide) q_47 rfl rfl dX7_peek_113 ?_
            refine z_put (fs' := [.int (zI (pl)), .int (zI (co)), .ref (ad 1), .int (zI ((n : Int))), .int (zI (0)), .int (zI (a8)), .int (zI ((n : Int))), .int (zI (tk)), .int (zI (td))]) C (lt_K hN (rfl : Nat.blt (2) 952 = true)) hay6 hgy12 tyX7 tyX7_ok nmX7 rfl inA_X7 6 (by decide) q_50 rfl rfl rfl rfl (Nat.le_of_ble_eq_true rfl) rfl dX7_peek_116 (fun gy14 egy15 => ?_)
            have hgy16 := up_s egy15
            refine z_aload_n C 0 dX7_peek_119 rfl ?_
            refine z_get (v := .int (zI (0))) C (lt_K hN (rfl : Nat.blt (2) 952 = true)) hay6 hgy16 rfl inA_X7 4 (by decide) q_48 rfl rfl dX7_peek_120 ?_
            refine z_iconst (z := 1) C dX7_peek_123 rfl ?_
            refine z_icmp_eq (tgt := 135) C dX7_peek_124 (by decide) (by omega) (by omega) (fun h => absurd h (by omega)) (fun _ => ?_)
            refine z_aload_n C 0 dX7_peek_127 rfl ?_
            refine z_get (v := .int (zI (0))) C (lt_K hN (rfl : Nat.blt (2) 952 = true)) hay6 hgy16 rfl inA_X7 4 (by decide) q_48 rfl rfl dX7_peek_128 ?_
            refine z_iconst (z := 2) C dX7_peek_131 rfl ?_
            refine z_icmp_ne (tgt := 178) C dX7_peek_132 (by decide) (by omega) (by omega) (fun _ => ?_) (fun h => absurd h (by omega))
            have hf : tk_at T n q0 = na := hi.symm.trans (tk_rn_end (by first | exact Or.inl (by omega) | exact Or.inr (hT.nb (by omega) (by omega))))
            have eX : (0 : Int) = tk_so T n (tk_at T n q0) := by
              rw [hf]; unfold tk_so
              first | (exfalso; omega) | (rw [if_pos (by omega)]; done) | (rw [if_neg (by omega)]; omega)
            have eY : (a8 : Int) = ((tk_at T n q0 : Nat) : Int) := by rw [hf]; omega
            have eZ : ((n : Int) : Int) = ((tk_to T n (tk_at T n q0) : Nat) : Int) := by
              rw [hf]; unfold tk_to
              first | (exfalso; omega) | (rw [if_pos (by omega)]; omega) | (rw [if_neg (by omega), if_neg (by omega)]; omega)
            exact z_vret C hr hlk dX7_peek_178 (by decide) (by decide) ⟨rfl, rfl, rfl, (hgy16).trans (rdC_c eX eY eZ), fun j j1 => by rw [egy15, va_up_ne _ _ (by omega)]; rw [egy11, va_up_ne _ _ (by omega)]; exact f3 j j1⟩
          · refine z_aload_n C 0 dX7_peek_103 rfl ?_
            refine z_get (v := .int (zI (a8))) C (lt_K hN (rfl : Nat.blt (2) 952 = true)) hay6 hgy12 rfl inA_X7 5 (by decide) q_49 rfl rfl dX7_peek_104 ?_
            refine z_iconst (z := 1) C dX7_peek_107 rfl ?_
            refine z_iadd C dX7_peek_108 ?_
            refine z_goto (tgt := 116) C dX7_peek_109 (by decide) ?_
            refine z_put (fs' := [.int (zI (pl)), .int (zI (co)), .ref (ad 1), .int (zI ((n : Int))), .int (zI (0)), .int (zI (a8)), .int (zI (a8 + 1)), .int (zI (tk)), .int (zI (td))]) C (lt_K hN (rfl : Nat.blt (2) 952 = true)) hay6 hgy12 tyX7 tyX7_ok nmX7 rfl inA_X7 6 (by decide) q_50 rfl rfl rfl rfl (Nat.le_of_ble_eq_true rfl) rfl dX7_peek_116 (fun gy17 egy18 => ?_)
            have hgy19 := up_s egy18
            refine z_aload_n C 0 dX7_peek_119 rfl ?_
            refine z_get (v := .int (zI (0))) C (lt_K hN (rfl : Nat.blt (2) 952 = true)) hay6 hgy19 rfl inA_X7 4 (by decide) q_48 rfl rfl dX7_peek_120 ?_
            refine z_iconst (z := 1) C dX7_peek_123 rfl ?_
            refine z_icmp_eq (tgt := 135) C dX7_peek_124 (by decide) (by omega) (by omega) (fun h => absurd h (by omega)) (fun _ => ?_)
            refine z_aload_n C 0 dX7_peek_127 rfl ?_
            refine z_get (v := .int (zI (0))) C (lt_K hN (rfl : Nat.blt (2) 952 = true)) hay6 hgy19 rfl inA_X7 4 (by decide) q_48 rfl rfl dX7_peek_128 ?_
            refine z_iconst (z := 2) C dX7_peek_131 rfl ?_
            refine z_icmp_ne (tgt := 178) C dX7_peek_132 (by decide) (by omega) (by omega) (fun _ => ?_) (fun h => absurd h (by omega))
            have hf : tk_at T n q0 = na := hi.symm.trans (tk_rn_end (by first | exact Or.inl (by omega) | exact Or.inr (hT.nb (by omega) (by omega))))
            have eX : (0 : Int) = tk_so T n (tk_at T n q0) := by
              rw [hf]; unfold tk_so
              first | (exfalso; omega) | (rw [if_pos (by omega)]; done) | (rw [if_neg (by omega)]; omega)
            have eY : (a8 : Int) = ((tk_at T n q0 : Nat) : Int) := by rw [hf]; omega
            have eZ : (a8 + 1 : Int) = ((tk_to T n (tk_at T n q0) : Nat) : Int) := by
              rw [hf]; unfold tk_to
              first | (exfalso; omega) | (rw [if_pos (by omega)]; omega) | (rw [if_neg (by omega), if_neg (by omega)]; omega)
            exact z_vret C hr hlk dX7_peek_178 (by decide) (by decide) ⟨rfl, rfl, rfl, (hgy19).trans (rdC_c eX eY eZ), fun j j1 => by rw [egy18, va_up_ne _ _ (by omega)]; rw [egy11, va_up_ne _ _ (by omega)]; exact f3 j j1⟩
        · refine z_aload_n C 0 dX7_peek_72 rfl ?_
          refine z_get (v := .ref (ad 1)) C (lt_K hN (rfl : Nat.blt (2) 952 = true)) hay6 f1 rfl inA_X7 2 (by decide) q_46 rfl rfl dX7_peek_73 ?_
          refine z_aload_n C 0 dX7_peek_76 rfl ?_
          refine z_get (v := .int (zI (a8))) C (lt_K hN (rfl : Nat.blt (2) 952 = true)) hay6 f1 rfl inA_X7 5 (by decide) q_49 rfl rfl dX7_peek_77 ?_
          refine z_bald C (lt_K hN (rfl : Nat.blt (1) 952 = true)) hay7 ((f3 _ (by omega)).trans hg1) (na) (by omega) (by omega) (by decide) dX7_peek_80 ?_
          have hrfy20 := hTr (na) (by omega)
          refine z_cS (As := [.int (zI (tp (na)))]) (rest := [.ref (ad 2)]) C (c_xType l D A cs tt N ad _ (tp (na)) (by omega)) ms_yX7_typeOf q_746 hd_yX7_typeOf (by decide) (Nat.le_of_ble_eq_true rfl) (by decide) dX7_peek_81 rfl (kI0 fun vy21 gvy21 hvy21 => ?_)
          obtain ⟨hvy21, rfl⟩ := hvy21
          rw [hT.ty (k := na) (by omega)] at hvy21
          have hbvy21 := tk_ty_c (T (na))
          have hqvy21 : 1 ≤ vy21 ∧ vy21 ≤ 5 := by omega
          clear hbvy21
          refine z_goto (tgt := 88) C dX7_peek_84 (by decide) ?_
          refine z_put (fs' := [.int (zI (pl)), .int (zI (co)), .ref (ad 1), .int (zI ((n : Int))), .int (zI (vy21)), .int (zI (a8)), .int (zI ((q0 : Int))), .int (zI (tk)), .int (zI (td))]) C (lt_K hN (rfl : Nat.blt (2) 952 = true)) hay6 f1 tyX7 tyX7_ok nmX7 rfl inA_X7 4 (by decide) q_48 rfl rfl rfl rfl (Nat.le_of_ble_eq_true rfl) rfl dX7_peek_88 (fun gy22 egy23 => ?_)
          have hgy24 := up_s egy23
          refine z_aload_n C 0 dX7_peek_91 rfl ?_
          refine z_aload_n C 0 dX7_peek_92 rfl ?_
          refine z_get (v := .int (zI (a8))) C (lt_K hN (rfl : Nat.blt (2) 952 = true)) hay6 hgy24 rfl inA_X7 5 (by decide) q_49 rfl rfl dX7_peek_93 ?_
          refine z_aload_n C 0 dX7_peek_96 rfl ?_
          refine z_get (v := .int (zI ((n : Int)))) C (lt_K hN (rfl : Nat.blt (2) 952 = true)) hay6 hgy24 rfl inA_X7 3 (by decide) q_47 rfl rfl dX7_peek_97 ?_
          refine z_icmp_ge (tgt := 112) C dX7_peek_100 (by decide) (by omega) (by omega) (fun hby25 => ?_) (fun hby25 => ?_)
          · refine z_aload_n C 0 dX7_peek_112 rfl ?_
            refine z_get (v := .int (zI ((n : Int)))) C (lt_K hN (rfl : Nat.blt (2) 952 = true)) hay6 hgy24 rfl inA_X7 3 (by decide) q_47 rfl rfl dX7_peek_113 ?_
            refine z_put (fs' := [.int (zI (pl)), .int (zI (co)), .ref (ad 1), .int (zI ((n : Int))), .int (zI (vy21)), .int (zI (a8)), .int (zI ((n : Int))), .int (zI (tk)), .int (zI (td))]) C (lt_K hN (rfl : Nat.blt (2) 952 = true)) hay6 hgy24 tyX7 tyX7_ok nmX7 rfl inA_X7 6 (by decide) q_50 rfl rfl rfl rfl (Nat.le_of_ble_eq_true rfl) rfl dX7_peek_116 (fun gy26 egy27 => ?_)
            have hgy28 := up_s egy27
            refine z_aload_n C 0 dX7_peek_119 rfl ?_
            refine z_get (v := .int (zI (vy21))) C (lt_K hN (rfl : Nat.blt (2) 952 = true)) hay6 hgy28 rfl inA_X7 4 (by decide) q_48 rfl rfl dX7_peek_120 ?_
            refine z_iconst (z := 1) C dX7_peek_123 rfl ?_
            refine z_icmp_eq (tgt := 135) C dX7_peek_124 (by decide) (by omega) (by omega) (fun hby29 => ?_) (fun hby29 => ?_)
            · have lp135 : ∀ (n9 : Nat) (b8 : Int) (t8 : Int) (a7 : Int) (nb : Nat) (na : Nat) (g1 : Nat → va_E), ((n : Int) - b8).toNat = n9 → (g1 2 = rdC ad (pl) (co) ((n : Int)) (t8) (a7) (b8) (tk) (td)) → (∀ j, j ≠ 2 → g1 j = g j) → (a7 = (na : Int) ∧ b8 = (nb : Int)) → (na < n ∧ na < nb ∧ nb ≤ n) → (t8 = tk_ty (T na)) → (t8 = 1 ∨ t8 = 2) → (tk_at T n q0 = na) → (tk_rn (fun c => decide (tk_ty c = tk_ty (T na))) T n nb = tk_rn (fun c => decide (tk_ty c = tk_ty (T na))) T n (na + 1)) → zV p l e ({ frames := 2, cells := 0, slots := 0, locals := 120 } : Room) s m ([.ref (ad 2)] : List Value).toArray below meth c (MQ below (zPost D A (rV0 N ad fun g' => g' 2 = rdC ad pl co (n : Int) (tk_so T n (tk_at T n q0)) ((tk_at T n q0 : Nat) : Int) ((tk_to T n (tk_at T n q0) : Nat) : Int) tk td ∧ ∀ j, j ≠ 2 → g' j = g j)) ([.ref (ad 2)] : List Value).toArray s ({ frames := 2, cells := 0, slots := 0, locals := 120 } : Room).cells ({ frames := 2, cells := 0, slots := 0, locals := 120 } : Room).slots A) D A 1 (N) ad g1 (0) (0) 135 [(0, .ref (ad 2))] [] := by
                intro n9
                induction n9 using Nat.strongRecOn with
                | ind n9 ih_lp135 =>
                  intro b8 t8 a7 nb na g1 hm9 f1 f3 h1 h2 h3 h4 hf hi2
                  have hay30 : zAt ad (2) (ad 2) := rfl
                  have hay31 : zAt ad (1) (ad 1) := rfl
                  refine z_aload_n C 0 dX7_peek_135 rfl ?_
                  refine z_get (v := .int (zI (b8))) C (lt_K hN (rfl : Nat.blt (2) 952 = true)) hay30 f1 rfl inA_X7 6 (by decide) q_50 rfl rfl dX7_peek_136 ?_
                  refine z_aload_n C 0 dX7_peek_139 rfl ?_
                  refine z_get (v := .int (zI ((n : Int)))) C (lt_K hN (rfl : Nat.blt (2) 952 = true)) hay30 f1 rfl inA_X7 3 (by decide) q_47 rfl rfl dX7_peek_140 ?_
                  refine z_icmp_ge (tgt := 178) C dX7_peek_143 (by decide) (by omega) (by omega) (fun hby32 => ?_) (fun hby32 => ?_)
                  · have eX : (t8 : Int) = tk_so T n (tk_at T n q0) := by
                      rw [hf]; unfold tk_so
                      first | (exfalso; omega) | (rw [if_pos (by omega)]; done) | (rw [if_neg (by omega)]; omega)
                    have eY : (a7 : Int) = ((tk_at T n q0 : Nat) : Int) := by rw [hf]; omega
                    have eZ : (b8 : Int) = ((tk_to T n (tk_at T n q0) : Nat) : Int) := by
                      rw [hf]; unfold tk_to
                      rw [if_neg (by omega), if_pos (by omega), ← hi2, tk_rn_end (by first | exact Or.inl (by omega) | exact Or.inr (decide_eq_false (by omega)))]; omega
                    exact z_vret C hr hlk dX7_peek_178 (by decide) (by decide) ⟨rfl, rfl, rfl, (f1).trans (rdC_c eX eY eZ), fun j j1 => by exact f3 j j1⟩
                  · refine z_aload_n C 0 dX7_peek_146 rfl ?_
                    refine z_get (v := .ref (ad 1)) C (lt_K hN (rfl : Nat.blt (2) 952 = true)) hay30 f1 rfl inA_X7 2 (by decide) q_46 rfl rfl dX7_peek_147 ?_
                    refine z_aload_n C 0 dX7_peek_150 rfl ?_
                    refine z_get (v := .int (zI (b8))) C (lt_K hN (rfl : Nat.blt (2) 952 = true)) hay30 f1 rfl inA_X7 6 (by decide) q_50 rfl rfl dX7_peek_151 ?_
                    refine z_bald C (lt_K hN (rfl : Nat.blt (1) 952 = true)) hay31 ((f3 _ (by omega)).trans hg1) (nb) (by omega) (by omega) (by decide) dX7_peek_154 ?_
                    have hrfy33 := hTr (nb) (by omega)
                    refine z_cS (As := [.int (zI (tp (nb)))]) (rest := []) C (c_xType l D A cs tt N ad _ (tp (nb)) (by omega)) ms_yX7_typeOf q_746 hd_yX7_typeOf (by decide) (Nat.le_of_ble_eq_true rfl) (by decide) dX7_peek_155 rfl (kI0 fun vy34 gvy34 hvy34 => ?_)
                    obtain ⟨hvy34, rfl⟩ := hvy34
                    rw [hT.ty (k := nb) (by omega)] at hvy34
                    have hbvy34 := tk_ty_c (T (nb))
                    have hqvy34 : 1 ≤ vy34 ∧ vy34 ≤ 5 := by omega
                    clear hbvy34
                    refine z_aload_n C 0 dX7_peek_158 rfl ?_
                    refine z_get (v := .int (zI (t8))) C (lt_K hN (rfl : Nat.blt (2) 952 = true)) hay30 f1 rfl inA_X7 4 (by decide) q_48 rfl rfl dX7_peek_159 ?_
                    refine z_icmp_ne (tgt := 178) C dX7_peek_162 (by decide) (by omega) (by omega) (fun hby35 => ?_) (fun hby35 => ?_)
                    · have eX : (t8 : Int) = tk_so T n (tk_at T n q0) := by
                        rw [hf]; unfold tk_so
                        first | (exfalso; omega) | (rw [if_pos (by omega)]; done) | (rw [if_neg (by omega)]; omega)
                      have eY : (a7 : Int) = ((tk_at T n q0 : Nat) : Int) := by rw [hf]; omega
                      have eZ : (b8 : Int) = ((tk_to T n (tk_at T n q0) : Nat) : Int) := by
                        rw [hf]; unfold tk_to
                        rw [if_neg (by omega), if_pos (by omega), ← hi2, tk_rn_end (by first | exact Or.inl (by omega) | exact Or.inr (decide_eq_false (by omega)))]; omega
                      exact z_vret C hr hlk dX7_peek_178 (by decide) (by decide) ⟨rfl, rfl, rfl, (f1).trans (rdC_c eX eY eZ), fun j j1 => by exact f3 j j1⟩
                    · refine z_aload_n C 0 dX7_peek_165 rfl ?_
                      refine z_dup C dX7_peek_166 rfl ?_
                      refine z_get (v := .int (zI (b8))) C (lt_K hN (rfl : Nat.blt (2) 952 = true)) hay30 f1 rfl inA_X7 6 (by decide) q_50 rfl rfl dX7_peek_167 ?_
                      refine z_iconst (z := 1) C dX7_peek_170 rfl ?_
                      refine z_iadd C dX7_peek_171 ?_
                      refine z_put (fs' := [.int (zI (pl)), .int (zI (co)), .ref (ad 1), .int (zI ((n : Int))), .int (zI (t8)), .int (zI (a7)), .int (zI (b8 + 1)), .int (zI (tk)), .int (zI (td))]) C (lt_K hN (rfl : Nat.blt (2) 952 = true)) hay30 f1 tyX7 tyX7_ok nmX7 rfl inA_X7 6 (by decide) q_50 rfl rfl rfl rfl (Nat.le_of_ble_eq_true rfl) rfl dX7_peek_172 (fun gy36 egy37 => ?_)
                      have hgy38 := up_s egy37
                      refine z_goto (tgt := 135) C dX7_peek_175 (by decide) ?_
                      refine z_lv (lv' := [(0, .ref (ad 2))]) [0] rfl ?_
                      exact ih_lp135 _ (by omega) (b8 + 1) (t8) (a7) (nb + 1) na gy36 rfl hgy38 (fun j j1 => by rw [egy37, va_up_ne _ _ (by omega)]; exact f3 j j1) (by omega) (by omega) (by omega) (by omega) hf ((tk_rn_go (by omega) (decide_eq_true (by omega))).symm.trans hi2)
              refine z_lv (lv' := [(0, .ref (ad 2))]) [0] rfl ?_
              have hf : tk_at T n q0 = na := hi.symm.trans (tk_rn_end (by first | exact Or.inl (by omega) | exact Or.inr (hT.nb (by omega) (by omega))))
              first
                | (exfalso; omega; done)
                | exact lp135 _ ((n : Int)) (vy21) (a8) (na + 1) na gy26 rfl hgy28 (fun j j1 => by rw [egy27, va_up_ne _ _ (by omega)]; rw [egy23, va_up_ne _ _ (by omega)]; exact f3 j j1) (by omega) (by omega) (by omega) (by omega) hf rfl
            · refine z_aload_n C 0 dX7_peek_127 rfl ?_
              refine z_get (v := .int (zI (vy21))) C (lt_K hN (rfl : Nat.blt (2) 952 = true)) hay6 hgy28 rfl inA_X7 4 (by decide) q_48 rfl rfl dX7_peek_128 ?_
              refine z_iconst (z := 2) C dX7_peek_131 rfl ?_
              refine z_icmp_ne (tgt := 178) C dX7_peek_132 (by decide) (by omega) (by omega) (fun hby39 => ?_) (fun hby39 => ?_)
              · have hf : tk_at T n q0 = na := hi.symm.trans (tk_rn_end (by first | exact Or.inl (by omega) | exact Or.inr (hT.nb (by omega) (by omega))))
                have eX : (vy21 : Int) = tk_so T n (tk_at T n q0) := by
                  rw [hf]; unfold tk_so
                  first | (exfalso; omega) | (rw [if_pos (by omega)]; done) | (rw [if_neg (by omega)]; omega)
                have eY : (a8 : Int) = ((tk_at T n q0 : Nat) : Int) := by rw [hf]; omega
                have eZ : ((n : Int) : Int) = ((tk_to T n (tk_at T n q0) : Nat) : Int) := by
                  rw [hf]; unfold tk_to
                  first | (exfalso; omega) | (rw [if_pos (by omega)]; omega) | (rw [if_neg (by omega), if_neg (by omega)]; omega)
                exact z_vret C hr hlk dX7_peek_178 (by decide) (by decide) ⟨rfl, rfl, rfl, (hgy28).trans (rdC_c eX eY eZ), fun j j1 => by rw [egy27, va_up_ne _ _ (by omega)]; rw [egy23, va_up_ne _ _ (by omega)]; exact f3 j j1⟩
              · have lp135 : ∀ (n9 : Nat) (b8 : Int) (t8 : Int) (a7 : Int) (nb : Nat) (na : Nat) (g1 : Nat → va_E), ((n : Int) - b8).toNat = n9 → (g1 2 = rdC ad (pl) (co) ((n : Int)) (t8) (a7) (b8) (tk) (td)) → (∀ j, j ≠ 2 → g1 j = g j) → (a7 = (na : Int) ∧ b8 = (nb : Int)) → (na < n ∧ na < nb ∧ nb ≤ n) → (t8 = tk_ty (T na)) → (t8 = 1 ∨ t8 = 2) → (tk_at T n q0 = na) → (tk_rn (fun c => decide (tk_ty c = tk_ty (T na))) T n nb = tk_rn (fun c => decide (tk_ty c = tk_ty (T na))) T n (na + 1)) → zV p l e ({ frames := 2, cells := 0, slots := 0, locals := 120 } : Room) s m ([.ref (ad 2)] : List Value).toArray below meth c (MQ below (zPost D A (rV0 N ad fun g' => g' 2 = rdC ad pl co (n : Int) (tk_so T n (tk_at T n q0)) ((tk_at T n q0 : Nat) : Int) ((tk_to T n (tk_at T n q0) : Nat) : Int) tk td ∧ ∀ j, j ≠ 2 → g' j = g j)) ([.ref (ad 2)] : List Value).toArray s ({ frames := 2, cells := 0, slots := 0, locals := 120 } : Room).cells ({ frames := 2, cells := 0, slots := 0, locals := 120 } : Room).slots A) D A 1 (N) ad g1 (0) (0) 135 [(0, .ref (ad 2))] [] := by
                  intro n9
                  induction n9 using Nat.strongRecOn with
                  | ind n9 ih_lp135 =>
                    intro b8 t8 a7 nb na g1 hm9 f1 f3 h1 h2 h3 h4 hf hi2
                    have hay40 : zAt ad (2) (ad 2) := rfl
                    have hay41 : zAt ad (1) (ad 1) := rfl
                    refine z_aload_n C 0 dX7_peek_135 rfl ?_
                    refine z_get (v := .int (zI (b8))) C (lt_K hN (rfl : Nat.blt (2) 952 = true)) hay40 f1 rfl inA_X7 6 (by decide) q_50 rfl rfl dX7_peek_136 ?_
                    refine z_aload_n C 0 dX7_peek_139 rfl ?_
                    refine z_get (v := .int (zI ((n : Int)))) C (lt_K hN (rfl : Nat.blt (2) 952 = true)) hay40 f1 rfl inA_X7 3 (by decide) q_47 rfl rfl dX7_peek_140 ?_
                    refine z_icmp_ge (tgt := 178) C dX7_peek_143 (by decide) (by omega) (by omega) (fun hby42 => ?_) (fun hby42 => ?_)
                    · have eX : (t8 : Int) = tk_so T n (tk_at T n q0) := by
                        rw [hf]; unfold tk_so
                        first | (exfalso; omega) | (rw [if_pos (by omega)]; done) | (rw [if_neg (by omega)]; omega)
                      have eY : (a7 : Int) = ((tk_at T n q0 : Nat) : Int) := by rw [hf]; omega
                      have eZ : (b8 : Int) = ((tk_to T n (tk_at T n q0) : Nat) : Int) := by
                        rw [hf]; unfold tk_to
                        rw [if_neg (by omega), if_pos (by omega), ← hi2, tk_rn_end (by first | exact Or.inl (by omega) | exact Or.inr (decide_eq_false (by omega)))]; omega
                      exact z_vret C hr hlk dX7_peek_178 (by decide) (by decide) ⟨rfl, rfl, rfl, (f1).trans (rdC_c eX eY eZ), fun j j1 => by exact f3 j j1⟩
                    · refine z_aload_n C 0 dX7_peek_146 rfl ?_
                      refine z_get (v := .ref (ad 1)) C (lt_K hN (rfl : Nat.blt (2) 952 = true)) hay40 f1 rfl inA_X7 2 (by decide) q_46 rfl rfl dX7_peek_147 ?_
                      refine z_aload_n C 0 dX7_peek_150 rfl ?_
                      refine z_get (v := .int (zI (b8))) C (lt_K hN (rfl : Nat.blt (2) 952 = true)) hay40 f1 rfl inA_X7 6 (by decide) q_50 rfl rfl dX7_peek_151 ?_
                      refine z_bald C (lt_K hN (rfl : Nat.blt (1) 952 = true)) hay41 ((f3 _ (by omega)).trans hg1) (nb) (by omega) (by omega) (by decide) dX7_peek_154 ?_
                      have hrfy43 := hTr (nb) (by omega)
                      refine z_cS (As := [.int (zI (tp (nb)))]) (rest := []) C (c_xType l D A cs tt N ad _ (tp (nb)) (by omega)) ms_yX7_typeOf q_746 hd_yX7_typeOf (by decide) (Nat.le_of_ble_eq_true rfl) (by decide) dX7_peek_155 rfl (kI0 fun vy44 gvy44 hvy44 => ?_)
                      obtain ⟨hvy44, rfl⟩ := hvy44
                      rw [hT.ty (k := nb) (by omega)] at hvy44
                      have hbvy44 := tk_ty_c (T (nb))
                      have hqvy44 : 1 ≤ vy44 ∧ vy44 ≤ 5 := by omega
                      clear hbvy44
                      refine z_aload_n C 0 dX7_peek_158 rfl ?_
                      refine z_get (v := .int (zI (t8))) C (lt_K hN (rfl : Nat.blt (2) 952 = true)) hay40 f1 rfl inA_X7 4 (by decide) q_48 rfl rfl dX7_peek_159 ?_
                      refine z_icmp_ne (tgt := 178) C dX7_peek_162 (by decide) (by omega) (by omega) (fun hby45 => ?_) (fun hby45 => ?_)
                      · have eX : (t8 : Int) = tk_so T n (tk_at T n q0) := by
                          rw [hf]; unfold tk_so
                          first | (exfalso; omega) | (rw [if_pos (by omega)]; done) | (rw [if_neg (by omega)]; omega)
                        have eY : (a7 : Int) = ((tk_at T n q0 : Nat) : Int) := by rw [hf]; omega
                        have eZ : (b8 : Int) = ((tk_to T n (tk_at T n q0) : Nat) : Int) := by
                          rw [hf]; unfold tk_to
                          rw [if_neg (by omega), if_pos (by omega), ← hi2, tk_rn_end (by first | exact Or.inl (by omega) | exact Or.inr (decide_eq_false (by omega)))]; omega
                        exact z_vret C hr hlk dX7_peek_178 (by decide) (by decide) ⟨rfl, rfl, rfl, (f1).trans (rdC_c eX eY eZ), fun j j1 => by exact f3 j j1⟩
                      · refine z_aload_n C 0 dX7_peek_165 rfl ?_
                        refine z_dup C dX7_peek_166 rfl ?_
                        refine z_get (v := .int (zI (b8))) C (lt_K hN (rfl : Nat.blt (2) 952 = true)) hay40 f1 rfl inA_X7 6 (by decide) q_50 rfl rfl dX7_peek_167 ?_
                        refine z_iconst (z := 1) C dX7_peek_170 rfl ?_
                        refine z_iadd C dX7_peek_171 ?_
                        refine z_put (fs' := [.int (zI (pl)), .int (zI (co)), .ref (ad 1), .int (zI ((n : Int))), .int (zI (t8)), .int (zI (a7)), .int (zI (b8 + 1)), .int (zI (tk)), .int (zI (td))]) C (lt_K hN (rfl : Nat.blt (2) 952 = true)) hay40 f1 tyX7 tyX7_ok nmX7 rfl inA_X7 6 (by decide) q_50 rfl rfl rfl rfl (Nat.le_of_ble_eq_true rfl) rfl dX7_peek_172 (fun gy46 egy47 => ?_)
                        have hgy48 := up_s egy47
                        refine z_goto (tgt := 135) C dX7_peek_175 (by decide) ?_
                        refine z_lv (lv' := [(0, .ref (ad 2))]) [0] rfl ?_
                        exact ih_lp135 _ (by omega) (b8 + 1) (t8) (a7) (nb + 1) na gy46 rfl hgy48 (fun j j1 => by rw [egy47, va_up_ne _ _ (by omega)]; exact f3 j j1) (by omega) (by omega) (by omega) (by omega) hf ((tk_rn_go (by omega) (decide_eq_true (by omega))).symm.trans hi2)
                refine z_lv (lv' := [(0, .ref (ad 2))]) [0] rfl ?_
                have hf : tk_at T n q0 = na := hi.symm.trans (tk_rn_end (by first | exact Or.inl (by omega) | exact Or.inr (hT.nb (by omega) (by omega))))
                first
                  | (exfalso; omega; done)
                  | exact lp135 _ ((n : Int)) (vy21) (a8) (na + 1) na gy26 rfl hgy28 (fun j j1 => by rw [egy27, va_up_ne _ _ (by omega)]; rw [egy23, va_up_ne _ _ (by omega)]; exact f3 j j1) (by omega) (by omega) (by omega) (by omega) hf rfl
          · refine z_aload_n C 0 dX7_peek_103 rfl ?_
            refine z_get (v := .int (zI (a8))) C (lt_K hN (rfl : Nat.blt (2) 952 = true)) hay6 hgy24 rfl inA_X7 5 (by decide) q_49 rfl rfl dX7_peek_104 ?_
            refine z_iconst (z := 1) C dX7_peek_107 rfl ?_
            refine z_iadd C dX7_peek_108 ?_
            refine z_goto (tgt := 116) C dX7_peek_109 (by decide) ?_
            refine z_put (fs' := [.int (zI (pl)), .int (zI (co)), .ref (ad 1), .int (zI ((n : Int))), .int (zI (vy21)), .int (zI (a8)), .int (zI (a8 + 1)), .int (zI (tk)), .int (zI (td))]) C (lt_K hN (rfl : Nat.blt (2) 952 = true)) hay6 hgy24 tyX7 tyX7_ok nmX7 rfl inA_X7 6 (by decide) q_50 rfl rfl rfl rfl (Nat.le_of_ble_eq_true rfl) rfl dX7_peek_116 (fun gy49 egy50 => ?_)
            have hgy51 := up_s egy50
            refine z_aload_n C 0 dX7_peek_119 rfl ?_
            refine z_get (v := .int (zI (vy21))) C (lt_K hN (rfl : Nat.blt (2) 952 = true)) hay6 hgy51 rfl inA_X7 4 (by decide) q_48 rfl rfl dX7_peek_120 ?_
            refine z_iconst (z := 1) C dX7_peek_123 rfl ?_
            refine z_icmp_eq (tgt := 135) C dX7_peek_124 (by decide) (by omega) (by omega) (fun hby52 => ?_) (fun hby52 => ?_)
            · have lp135 : ∀ (n9 : Nat) (b8 : Int) (t8 : Int) (a7 : Int) (nb : Nat) (na : Nat) (g1 : Nat → va_E), ((n : Int) - b8).toNat = n9 → (g1 2 = rdC ad (pl) (co) ((n : Int)) (t8) (a7) (b8) (tk) (td)) → (∀ j, j ≠ 2 → g1 j = g j) → (a7 = (na : Int) ∧ b8 = (nb : Int)) → (na < n ∧ na < nb ∧ nb ≤ n) → (t8 = tk_ty (T na)) → (t8 = 1 ∨ t8 = 2) → (tk_at T n q0 = na) → (tk_rn (fun c => decide (tk_ty c = tk_ty (T na))) T n nb = tk_rn (fun c => decide (tk_ty c = tk_ty (T na))) T n (na + 1)) → zV p l e ({ frames := 2, cells := 0, slots := 0, locals := 120 } : Room) s m ([.ref (ad 2)] : List Value).toArray below meth c (MQ below (zPost D A (rV0 N ad fun g' => g' 2 = rdC ad pl co (n : Int) (tk_so T n (tk_at T n q0)) ((tk_at T n q0 : Nat) : Int) ((tk_to T n (tk_at T n q0) : Nat) : Int) tk td ∧ ∀ j, j ≠ 2 → g' j = g j)) ([.ref (ad 2)] : List Value).toArray s ({ frames := 2, cells := 0, slots := 0, locals := 120 } : Room).cells ({ frames := 2, cells := 0, slots := 0, locals := 120 } : Room).slots A) D A 1 (N) ad g1 (0) (0) 135 [(0, .ref (ad 2))] [] := by
                intro n9
                induction n9 using Nat.strongRecOn with
                | ind n9 ih_lp135 =>
                  intro b8 t8 a7 nb na g1 hm9 f1 f3 h1 h2 h3 h4 hf hi2
                  have hay53 : zAt ad (2) (ad 2) := rfl
                  have hay54 : zAt ad (1) (ad 1) := rfl
                  refine z_aload_n C 0 dX7_peek_135 rfl ?_
                  refine z_get (v := .int (zI (b8))) C (lt_K hN (rfl : Nat.blt (2) 952 = true)) hay53 f1 rfl inA_X7 6 (by decide) q_50 rfl rfl dX7_peek_136 ?_
                  refine z_aload_n C 0 dX7_peek_139 rfl ?_
                  refine z_get (v := .int (zI ((n : Int)))) C (lt_K hN (rfl : Nat.blt (2) 952 = true)) hay53 f1 rfl inA_X7 3 (by decide) q_47 rfl rfl dX7_peek_140 ?_
                  refine z_icmp_ge (tgt := 178) C dX7_peek_143 (by decide) (by omega) (by omega) (fun hby55 => ?_) (fun hby55 => ?_)
                  · have eX : (t8 : Int) = tk_so T n (tk_at T n q0) := by
                      rw [hf]; unfold tk_so
                      first | (exfalso; omega) | (rw [if_pos (by omega)]; done) | (rw [if_neg (by omega)]; omega)
                    have eY : (a7 : Int) = ((tk_at T n q0 : Nat) : Int) := by rw [hf]; omega
                    have eZ : (b8 : Int) = ((tk_to T n (tk_at T n q0) : Nat) : Int) := by
                      rw [hf]; unfold tk_to
                      rw [if_neg (by omega), if_pos (by omega), ← hi2, tk_rn_end (by first | exact Or.inl (by omega) | exact Or.inr (decide_eq_false (by omega)))]; omega
                    exact z_vret C hr hlk dX7_peek_178 (by decide) (by decide) ⟨rfl, rfl, rfl, (f1).trans (rdC_c eX eY eZ), fun j j1 => by exact f3 j j1⟩
                  · refine z_aload_n C 0 dX7_peek_146 rfl ?_
                    refine z_get (v := .ref (ad 1)) C (lt_K hN (rfl : Nat.blt (2) 952 = true)) hay53 f1 rfl inA_X7 2 (by decide) q_46 rfl rfl dX7_peek_147 ?_
                    refine z_aload_n C 0 dX7_peek_150 rfl ?_
                    refine z_get (v := .int (zI (b8))) C (lt_K hN (rfl : Nat.blt (2) 952 = true)) hay53 f1 rfl inA_X7 6 (by decide) q_50 rfl rfl dX7_peek_151 ?_
                    refine z_bald C (lt_K hN (rfl : Nat.blt (1) 952 = true)) hay54 ((f3 _ (by omega)).trans hg1) (nb) (by omega) (by omega) (by decide) dX7_peek_154 ?_
                    have hrfy56 := hTr (nb) (by omega)
                    refine z_cS (As := [.int (zI (tp (nb)))]) (rest := []) C (c_xType l D A cs tt N ad _ (tp (nb)) (by omega)) ms_yX7_typeOf q_746 hd_yX7_typeOf (by decide) (Nat.le_of_ble_eq_true rfl) (by decide) dX7_peek_155 rfl (kI0 fun vy57 gvy57 hvy57 => ?_)
                    obtain ⟨hvy57, rfl⟩ := hvy57
                    rw [hT.ty (k := nb) (by omega)] at hvy57
                    have hbvy57 := tk_ty_c (T (nb))
                    have hqvy57 : 1 ≤ vy57 ∧ vy57 ≤ 5 := by omega
                    clear hbvy57
                    refine z_aload_n C 0 dX7_peek_158 rfl ?_
                    refine z_get (v := .int (zI (t8))) C (lt_K hN (rfl : Nat.blt (2) 952 = true)) hay53 f1 rfl inA_X7 4 (by decide) q_48 rfl rfl dX7_peek_159 ?_
                    refine z_icmp_ne (tgt := 178) C dX7_peek_162 (by decide) (by omega) (by omega) (fun hby58 => ?_) (fun hby58 => ?_)
                    · have eX : (t8 : Int) = tk_so T n (tk_at T n q0) := by
                        rw [hf]; unfold tk_so
                        first | (exfalso; omega) | (rw [if_pos (by omega)]; done) | (rw [if_neg (by omega)]; omega)
                      have eY : (a7 : Int) = ((tk_at T n q0 : Nat) : Int) := by rw [hf]; omega
                      have eZ : (b8 : Int) = ((tk_to T n (tk_at T n q0) : Nat) : Int) := by
                        rw [hf]; unfold tk_to
                        rw [if_neg (by omega), if_pos (by omega), ← hi2, tk_rn_end (by first | exact Or.inl (by omega) | exact Or.inr (decide_eq_false (by omega)))]; omega
                      exact z_vret C hr hlk dX7_peek_178 (by decide) (by decide) ⟨rfl, rfl, rfl, (f1).trans (rdC_c eX eY eZ), fun j j1 => by exact f3 j j1⟩
                    · refine z_aload_n C 0 dX7_peek_165 rfl ?_
                      refine z_dup C dX7_peek_166 rfl ?_
                      refine z_get (v := .int (zI (b8))) C (lt_K hN (rfl : Nat.blt (2) 952 = true)) hay53 f1 rfl inA_X7 6 (by decide) q_50 rfl rfl dX7_peek_167 ?_
                      refine z_iconst (z := 1) C dX7_peek_170 rfl ?_
                      refine z_iadd C dX7_peek_171 ?_
                      refine z_put (fs' := [.int (zI (pl)), .int (zI (co)), .ref (ad 1), .int (zI ((n : Int))), .int (zI (t8)), .int (zI (a7)), .int (zI (b8 + 1)), .int (zI (tk)), .int (zI (td))]) C (lt_K hN (rfl : Nat.blt (2) 952 = true)) hay53 f1 tyX7 tyX7_ok nmX7 rfl inA_X7 6 (by decide) q_50 rfl rfl rfl rfl (Nat.le_of_ble_eq_true rfl) rfl dX7_peek_172 (fun gy59 egy60 => ?_)
                      have hgy61 := up_s egy60
                      refine z_goto (tgt := 135) C dX7_peek_175 (by decide) ?_
                      refine z_lv (lv' := [(0, .ref (ad 2))]) [0] rfl ?_
                      exact ih_lp135 _ (by omega) (b8 + 1) (t8) (a7) (nb + 1) na gy59 rfl hgy61 (fun j j1 => by rw [egy60, va_up_ne _ _ (by omega)]; exact f3 j j1) (by omega) (by omega) (by omega) (by omega) hf ((tk_rn_go (by omega) (decide_eq_true (by omega))).symm.trans hi2)
              refine z_lv (lv' := [(0, .ref (ad 2))]) [0] rfl ?_
              have hf : tk_at T n q0 = na := hi.symm.trans (tk_rn_end (by first | exact Or.inl (by omega) | exact Or.inr (hT.nb (by omega) (by omega))))
              first
                | (exfalso; omega; done)
                | exact lp135 _ (a8 + 1) (vy21) (a8) (na + 1) na gy49 rfl hgy51 (fun j j1 => by rw [egy50, va_up_ne _ _ (by omega)]; rw [egy23, va_up_ne _ _ (by omega)]; exact f3 j j1) (by omega) (by omega) (by omega) (by omega) hf rfl
            · refine z_aload_n C 0 dX7_peek_127 rfl ?_
              refine z_get (v := .int (zI (vy21))) C (lt_K hN (rfl : Nat.blt (2) 952 = true)) hay6 hgy51 rfl inA_X7 4 (by decide) q_48 rfl rfl dX7_peek_128 ?_
              refine z_iconst (z := 2) C dX7_peek_131 rfl ?_
              refine z_icmp_ne (tgt := 178) C dX7_peek_132 (by decide) (by omega) (by omega) (fun hby62 => ?_) (fun hby62 => ?_)
              · have hf : tk_at T n q0 = na := hi.symm.trans (tk_rn_end (by first | exact Or.inl (by omega) | exact Or.inr (hT.nb (by omega) (by omega))))
                have eX : (vy21 : Int) = tk_so T n (tk_at T n q0) := by
                  rw [hf]; unfold tk_so
                  first | (exfalso; omega) | (rw [if_pos (by omega)]; done) | (rw [if_neg (by omega)]; omega)
                have eY : (a8 : Int) = ((tk_at T n q0 : Nat) : Int) := by rw [hf]; omega
                have eZ : (a8 + 1 : Int) = ((tk_to T n (tk_at T n q0) : Nat) : Int) := by
                  rw [hf]; unfold tk_to
                  first | (exfalso; omega) | (rw [if_pos (by omega)]; omega) | (rw [if_neg (by omega), if_neg (by omega)]; omega)
                exact z_vret C hr hlk dX7_peek_178 (by decide) (by decide) ⟨rfl, rfl, rfl, (hgy51).trans (rdC_c eX eY eZ), fun j j1 => by rw [egy50, va_up_ne _ _ (by omega)]; rw [egy23, va_up_ne _ _ (by omega)]; exact f3 j j1⟩
              · have lp135 : ∀ (n9 : Nat) (b8 : Int) (t8 : Int) (a7 : Int) (nb : Nat) (na : Nat) (g1 : Nat → va_E), ((n : Int) - b8).toNat = n9 → (g1 2 = rdC ad (pl) (co) ((n : Int)) (t8) (a7) (b8) (tk) (td)) → (∀ j, j ≠ 2 → g1 j = g j) → (a7 = (na : Int) ∧ b8 = (nb : Int)) → (na < n ∧ na < nb ∧ nb ≤ n) → (t8 = tk_ty (T na)) → (t8 = 1 ∨ t8 = 2) → (tk_at T n q0 = na) → (tk_rn (fun c => decide (tk_ty c = tk_ty (T na))) T n nb = tk_rn (fun c => decide (tk_ty c = tk_ty (T na))) T n (na + 1)) → zV p l e ({ frames := 2, cells := 0, slots := 0, locals := 120 } : Room) s m ([.ref (ad 2)] : List Value).toArray below meth c (MQ below (zPost D A (rV0 N ad fun g' => g' 2 = rdC ad pl co (n : Int) (tk_so T n (tk_at T n q0)) ((tk_at T n q0 : Nat) : Int) ((tk_to T n (tk_at T n q0) : Nat) : Int) tk td ∧ ∀ j, j ≠ 2 → g' j = g j)) ([.ref (ad 2)] : List Value).toArray s ({ frames := 2, cells := 0, slots := 0, locals := 120 } : Room).cells ({ frames := 2, cells := 0, slots := 0, locals := 120 } : Room).slots A) D A 1 (N) ad g1 (0) (0) 135 [(0, .ref (ad 2))] [] := by
                  intro n9
                  induction n9 using Nat.strongRecOn with
                  | ind n9 ih_lp135 =>
                    intro b8 t8 a7 nb na g1 hm9 f1 f3 h1 h2 h3 h4 hf hi2
                    have hay63 : zAt ad (2) (ad 2) := rfl
                    have hay64 : zAt ad (1) (ad 1) := rfl
                    refine z_aload_n C 0 dX7_peek_135 rfl ?_
                    refine z_get (v := .int (zI (b8))) C (lt_K hN (rfl : Nat.blt (2) 952 = true)) hay63 f1 rfl inA_X7 6 (by decide) q_50 rfl rfl dX7_peek_136 ?_
                    refine z_aload_n C 0 dX7_peek_139 rfl ?_
                    refine z_get (v := .int (zI ((n : Int)))) C (lt_K hN (rfl : Nat.blt (2) 952 = true)) hay63 f1 rfl inA_X7 3 (by decide) q_47 rfl rfl dX7_peek_140 ?_
                    refine z_icmp_ge (tgt := 178) C dX7_peek_143 (by decide) (by omega) (by omega) (fun hby65 => ?_) (fun hby65 => ?_)
                    · have eX : (t8 : Int) = tk_so T n (tk_at T n q0) := by
                        rw [hf]; unfold tk_so
                        first | (exfalso; omega) | (rw [if_pos (by omega)]; done) | (rw [if_neg (by omega)]; omega)
                      have eY : (a7 : Int) = ((tk_at T n q0 : Nat) : Int) := by rw [hf]; omega
                      have eZ : (b8 : Int) = ((tk_to T n (tk_at T n q0) : Nat) : Int) := by
                        rw [hf]; unfold tk_to
                        rw [if_neg (by omega), if_pos (by omega), ← hi2, tk_rn_end (by first | exact Or.inl (by omega) | exact Or.inr (decide_eq_false (by omega)))]; omega
                      exact z_vret C hr hlk dX7_peek_178 (by decide) (by decide) ⟨rfl, rfl, rfl, (f1).trans (rdC_c eX eY eZ), fun j j1 => by exact f3 j j1⟩
                    · refine z_aload_n C 0 dX7_peek_146 rfl ?_
                      refine z_get (v := .ref (ad 1)) C (lt_K hN (rfl : Nat.blt (2) 952 = true)) hay63 f1 rfl inA_X7 2 (by decide) q_46 rfl rfl dX7_peek_147 ?_
                      refine z_aload_n C 0 dX7_peek_150 rfl ?_
                      refine z_get (v := .int (zI (b8))) C (lt_K hN (rfl : Nat.blt (2) 952 = true)) hay63 f1 rfl inA_X7 6 (by decide) q_50 rfl rfl dX7_peek_151 ?_
                      refine z_bald C (lt_K hN (rfl : Nat.blt (1) 952 = true)) hay64 ((f3 _ (by omega)).trans hg1) (nb) (by omega) (by omega) (by decide) dX7_peek_154 ?_
                      have hrfy66 := hTr (nb) (by omega)
                      refine z_cS (As := [.int (zI (tp (nb)))]) (rest := []) C (c_xType l D A cs tt N ad _ (tp (nb)) (by omega)) ms_yX7_typeOf q_746 hd_yX7_typeOf (by decide) (Nat.le_of_ble_eq_true rfl) (by decide) dX7_peek_155 rfl (kI0 fun vy67 gvy67 hvy67 => ?_)
                      obtain ⟨hvy67, rfl⟩ := hvy67
                      rw [hT.ty (k := nb) (by omega)] at hvy67
                      have hbvy67 := tk_ty_c (T (nb))
                      have hqvy67 : 1 ≤ vy67 ∧ vy67 ≤ 5 := by omega
                      clear hbvy67
                      refine z_aload_n C 0 dX7_peek_158 rfl ?_
                      refine z_get (v := .int (zI (t8))) C (lt_K hN (rfl : Nat.blt (2) 952 = true)) hay63 f1 rfl inA_X7 4 (by decide) q_48 rfl rfl dX7_peek_159 ?_
                      refine z_icmp_ne (tgt := 178) C dX7_peek_162 (by decide) (by omega) (by omega) (fun hby68 => ?_) (fun hby68 => ?_)
                      · have eX : (t8 : Int) = tk_so T n (tk_at T n q0) := by
                          rw [hf]; unfold tk_so
                          first | (exfalso; omega) | (rw [if_pos (by omega)]; done) | (rw [if_neg (by omega)]; omega)
                        have eY : (a7 : Int) = ((tk_at T n q0 : Nat) : Int) := by rw [hf]; omega
                        have eZ : (b8 : Int) = ((tk_to T n (tk_at T n q0) : Nat) : Int) := by
                          rw [hf]; unfold tk_to
                          rw [if_neg (by omega), if_pos (by omega), ← hi2, tk_rn_end (by first | exact Or.inl (by omega) | exact Or.inr (decide_eq_false (by omega)))]; omega
                        exact z_vret C hr hlk dX7_peek_178 (by decide) (by decide) ⟨rfl, rfl, rfl, (f1).trans (rdC_c eX eY eZ), fun j j1 => by exact f3 j j1⟩
                      · refine z_aload_n C 0 dX7_peek_165 rfl ?_
                        refine z_dup C dX7_peek_166 rfl ?_
                        refine z_get (v := .int (zI (b8))) C (lt_K hN (rfl : Nat.blt (2) 952 = true)) hay63 f1 rfl inA_X7 6 (by decide) q_50 rfl rfl dX7_peek_167 ?_
                        refine z_iconst (z := 1) C dX7_peek_170 rfl ?_
                        refine z_iadd C dX7_peek_171 ?_
                        refine z_put (fs' := [.int (zI (pl)), .int (zI (co)), .ref (ad 1), .int (zI ((n : Int))), .int (zI (t8)), .int (zI (a7)), .int (zI (b8 + 1)), .int (zI (tk)), .int (zI (td))]) C (lt_K hN (rfl : Nat.blt (2) 952 = true)) hay63 f1 tyX7 tyX7_ok nmX7 rfl inA_X7 6 (by decide) q_50 rfl rfl rfl rfl (Nat.le_of_ble_eq_true rfl) rfl dX7_peek_172 (fun gy69 egy70 => ?_)
                        have hgy71 := up_s egy70
                        refine z_goto (tgt := 135) C dX7_peek_175 (by decide) ?_
                        refine z_lv (lv' := [(0, .ref (ad 2))]) [0] rfl ?_
                        exact ih_lp135 _ (by omega) (b8 + 1) (t8) (a7) (nb + 1) na gy69 rfl hgy71 (fun j j1 => by rw [egy70, va_up_ne _ _ (by omega)]; exact f3 j j1) (by omega) (by omega) (by omega) (by omega) hf ((tk_rn_go (by omega) (decide_eq_true (by omega))).symm.trans hi2)
                refine z_lv (lv' := [(0, .ref (ad 2))]) [0] rfl ?_
                have hf : tk_at T n q0 = na := hi.symm.trans (tk_rn_end (by first | exact Or.inl (by omega) | exact Or.inr (hT.nb (by omega) (by omega))))
                first
                  | (exfalso; omega; done)
                  | exact lp135 _ (a8 + 1) (vy21) (a8) (na + 1) na gy49 rfl hgy51 (fun j j1 => by rw [egy50, va_up_ne _ _ (by omega)]; rw [egy23, va_up_ne _ _ (by omega)]; exact f3 j j1) (by omega) (by omega) (by omega) (by omega) hf rfl
      · refine z_aload_n C 0 dX7_peek_19 rfl ?_
        refine z_get (v := .ref (ad 1)) C (lt_K hN (rfl : Nat.blt (2) 952 = true)) hay6 f1 rfl inA_X7 2 (by decide) q_46 rfl rfl dX7_peek_20 ?_
        refine z_aload_n C 0 dX7_peek_23 rfl ?_
        refine z_get (v := .int (zI (a8))) C (lt_K hN (rfl : Nat.blt (2) 952 = true)) hay6 f1 rfl inA_X7 5 (by decide) q_49 rfl rfl dX7_peek_24 ?_
        refine z_bald C (lt_K hN (rfl : Nat.blt (1) 952 = true)) hay7 ((f3 _ (by omega)).trans hg1) (na) (by omega) (by omega) (by decide) dX7_peek_27 ?_
        have hrfy72 := hTr (na) (by omega)
        refine z_bipush (z := 32) C dX7_peek_28 (by decide) ?_
        refine z_icmp_eq (tgt := 47) C dX7_peek_30 (by decide) (by omega) (by omega) (fun hby73 => ?_) (fun hby73 => ?_)
        · refine z_aload_n C 0 dX7_peek_47 rfl ?_
          refine z_dup C dX7_peek_48 rfl ?_
          refine z_get (v := .int (zI (a8))) C (lt_K hN (rfl : Nat.blt (2) 952 = true)) hay6 f1 rfl inA_X7 5 (by decide) q_49 rfl rfl dX7_peek_49 ?_
          refine z_iconst (z := 1) C dX7_peek_52 rfl ?_
          refine z_iadd C dX7_peek_53 ?_
          refine z_put (fs' := [.int (zI (pl)), .int (zI (co)), .ref (ad 1), .int (zI ((n : Int))), .int (zI (ty)), .int (zI (a8 + 1)), .int (zI ((q0 : Int))), .int (zI (tk)), .int (zI (td))]) C (lt_K hN (rfl : Nat.blt (2) 952 = true)) hay6 f1 tyX7 tyX7_ok nmX7 rfl inA_X7 5 (by decide) q_49 rfl rfl rfl rfl (Nat.le_of_ble_eq_true rfl) rfl dX7_peek_54 (fun gy74 egy75 => ?_)
          have hgy76 := up_s egy75
          refine z_goto (tgt := 8) C dX7_peek_57 (by decide) ?_
          refine z_lv (lv' := [(0, .ref (ad 2))]) [0] rfl ?_
          exact ih_lp8 _ (by omega) (a8 + 1) (na + 1) gy74 rfl hgy76 (fun j j1 => by rw [egy75, va_up_ne _ _ (by omega)]; exact f3 j j1) (by omega) (by omega) ((tk_rn_go (by omega) ((hT.bl (by omega)).mpr (by omega))).symm.trans hi)
        · refine z_aload_n C 0 dX7_peek_33 rfl ?_
          refine z_get (v := .ref (ad 1)) C (lt_K hN (rfl : Nat.blt (2) 952 = true)) hay6 f1 rfl inA_X7 2 (by decide) q_46 rfl rfl dX7_peek_34 ?_
          refine z_aload_n C 0 dX7_peek_37 rfl ?_
          refine z_get (v := .int (zI (a8))) C (lt_K hN (rfl : Nat.blt (2) 952 = true)) hay6 f1 rfl inA_X7 5 (by decide) q_49 rfl rfl dX7_peek_38 ?_
          refine z_bald C (lt_K hN (rfl : Nat.blt (1) 952 = true)) hay7 ((f3 _ (by omega)).trans hg1) (na) (by omega) (by omega) (by decide) dX7_peek_41 ?_
          have hrfy77 := hTr (na) (by omega)
          refine z_bipush (z := 10) C dX7_peek_42 (by decide) ?_
          refine z_icmp_ne (tgt := 60) C dX7_peek_44 (by decide) (by omega) (by omega) (fun hby78 => ?_) (fun hby78 => ?_)
          · refine z_aload_n C 0 dX7_peek_60 rfl ?_
            refine z_aload_n C 0 dX7_peek_61 rfl ?_
            refine z_get (v := .int (zI (a8))) C (lt_K hN (rfl : Nat.blt (2) 952 = true)) hay6 f1 rfl inA_X7 5 (by decide) q_49 rfl rfl dX7_peek_62 ?_
            refine z_aload_n C 0 dX7_peek_65 rfl ?_
            refine z_get (v := .int (zI ((n : Int)))) C (lt_K hN (rfl : Nat.blt (2) 952 = true)) hay6 f1 rfl inA_X7 3 (by decide) q_47 rfl rfl dX7_peek_66 ?_
            refine z_icmp_ge (tgt := 87) C dX7_peek_69 (by decide) (by omega) (by omega) (fun hby79 => ?_) (fun hby79 => ?_)
            · refine z_iconst (z := 0) C dX7_peek_87 rfl ?_
              refine z_put (fs' := [.int (zI (pl)), .int (zI (co)), .ref (ad 1), .int (zI ((n : Int))), .int (zI (0)), .int (zI (a8)), .int (zI ((q0 : Int))), .int (zI (tk)), .int (zI (td))]) C (lt_K hN (rfl : Nat.blt (2) 952 = true)) hay6 f1 tyX7 tyX7_ok nmX7 rfl inA_X7 4 (by decide) q_48 rfl rfl rfl rfl (Nat.le_of_ble_eq_true rfl) rfl dX7_peek_88 (fun gy80 egy81 => ?_)
              have hgy82 := up_s egy81
              refine z_aload_n C 0 dX7_peek_91 rfl ?_
              refine z_aload_n C 0 dX7_peek_92 rfl ?_
              refine z_get (v := .int (zI (a8))) C (lt_K hN (rfl : Nat.blt (2) 952 = true)) hay6 hgy82 rfl inA_X7 5 (by decide) q_49 rfl rfl dX7_peek_93 ?_
              refine z_aload_n C 0 dX7_peek_96 rfl ?_
              refine z_get (v := .int (zI ((n : Int)))) C (lt_K hN (rfl : Nat.blt (2) 952 = true)) hay6 hgy82 rfl inA_X7 3 (by decide) q_47 rfl rfl dX7_peek_97 ?_
              refine z_icmp_ge (tgt := 112) C dX7_peek_100 (by decide) (by omega) (by omega) (fun hby83 => ?_) (fun hby83 => ?_)
              · refine z_aload_n C 0 dX7_peek_112 rfl ?_
                refine z_get (v := .int (zI ((n : Int)))) C (lt_K hN (rfl : Nat.blt (2) 952 = true)) hay6 hgy82 rfl inA_X7 3 (by decide) q_47 rfl rfl dX7_peek_113 ?_
                refine z_put (fs' := [.int (zI (pl)), .int (zI (co)), .ref (ad 1), .int (zI ((n : Int))), .int (zI (0)), .int (zI (a8)), .int (zI ((n : Int))), .int (zI (tk)), .int (zI (td))]) C (lt_K hN (rfl : Nat.blt (2) 952 = true)) hay6 hgy82 tyX7 tyX7_ok nmX7 rfl inA_X7 6 (by decide) q_50 rfl rfl rfl rfl (Nat.le_of_ble_eq_true rfl) rfl dX7_peek_116 (fun gy84 egy85 => ?_)
                have hgy86 := up_s egy85
                refine z_aload_n C 0 dX7_peek_119 rfl ?_
                refine z_get (v := .int (zI (0))) C (lt_K hN (rfl : Nat.blt (2) 952 = true)) hay6 hgy86 rfl inA_X7 4 (by decide) q_48 rfl rfl dX7_peek_120 ?_
                refine z_iconst (z := 1) C dX7_peek_123 rfl ?_
                refine z_icmp_eq (tgt := 135) C dX7_peek_124 (by decide) (by omega) (by omega) (fun h => absurd h (by omega)) (fun _ => ?_)
                refine z_aload_n C 0 dX7_peek_127 rfl ?_
                refine z_get (v := .int (zI (0))) C (lt_K hN (rfl : Nat.blt (2) 952 = true)) hay6 hgy86 rfl inA_X7 4 (by decide) q_48 rfl rfl dX7_peek_128 ?_
                refine z_iconst (z := 2) C dX7_peek_131 rfl ?_
                refine z_icmp_ne (tgt := 178) C dX7_peek_132 (by decide) (by omega) (by omega) (fun _ => ?_) (fun h => absurd h (by omega))
                have hf : tk_at T n q0 = na := hi.symm.trans (tk_rn_end (by first | exact Or.inl (by omega) | exact Or.inr (hT.nb (by omega) (by omega))))
                have eX : (0 : Int) = tk_so T n (tk_at T n q0) := by
                  rw [hf]; unfold tk_so
                  first | (exfalso; omega) | (rw [if_pos (by omega)]; done) | (rw [if_neg (by omega)]; omega)
                have eY : (a8 : Int) = ((tk_at T n q0 : Nat) : Int) := by rw [hf]; omega
                have eZ : ((n : Int) : Int) = ((tk_to T n (tk_at T n q0) : Nat) : Int) := by
                  rw [hf]; unfold tk_to
                  first | (exfalso; omega) | (rw [if_pos (by omega)]; omega) | (rw [if_neg (by omega), if_neg (by omega)]; omega)
                exact z_vret C hr hlk dX7_peek_178 (by decide) (by decide) ⟨rfl, rfl, rfl, (hgy86).trans (rdC_c eX eY eZ), fun j j1 => by rw [egy85, va_up_ne _ _ (by omega)]; rw [egy81, va_up_ne _ _ (by omega)]; exact f3 j j1⟩
              · refine z_aload_n C 0 dX7_peek_103 rfl ?_
                refine z_get (v := .int (zI (a8))) C (lt_K hN (rfl : Nat.blt (2) 952 = true)) hay6 hgy82 rfl inA_X7 5 (by decide) q_49 rfl rfl dX7_peek_104 ?_
                refine z_iconst (z := 1) C dX7_peek_107 rfl ?_
                refine z_iadd C dX7_peek_108 ?_
                refine z_goto (tgt := 116) C dX7_peek_109 (by decide) ?_
                refine z_put (fs' := [.int (zI (pl)), .int (zI (co)), .ref (ad 1), .int (zI ((n : Int))), .int (zI (0)), .int (zI (a8)), .int (zI (a8 + 1)), .int (zI (tk)), .int (zI (td))]) C (lt_K hN (rfl : Nat.blt (2) 952 = true)) hay6 hgy82 tyX7 tyX7_ok nmX7 rfl inA_X7 6 (by decide) q_50 rfl rfl rfl rfl (Nat.le_of_ble_eq_true rfl) rfl dX7_peek_116 (fun gy87 egy88 => ?_)
                have hgy89 := up_s egy88
                refine z_aload_n C 0 dX7_peek_119 rfl ?_
                refine z_get (v := .int (zI (0))) C (lt_K hN (rfl : Nat.blt (2) 952 = true)) hay6 hgy89 rfl inA_X7 4 (by decide) q_48 rfl rfl dX7_peek_120 ?_
                refine z_iconst (z := 1) C dX7_peek_123 rfl ?_
                refine z_icmp_eq (tgt := 135) C dX7_peek_124 (by decide) (by omega) (by omega) (fun h => absurd h (by omega)) (fun _ => ?_)
                refine z_aload_n C 0 dX7_peek_127 rfl ?_
                refine z_get (v := .int (zI (0))) C (lt_K hN (rfl : Nat.blt (2) 952 = true)) hay6 hgy89 rfl inA_X7 4 (by decide) q_48 rfl rfl dX7_peek_128 ?_
                refine z_iconst (z := 2) C dX7_peek_131 rfl ?_
                refine z_icmp_ne (tgt := 178) C dX7_peek_132 (by decide) (by omega) (by omega) (fun _ => ?_) (fun h => absurd h (by omega))
                have hf : tk_at T n q0 = na := hi.symm.trans (tk_rn_end (by first | exact Or.inl (by omega) | exact Or.inr (hT.nb (by omega) (by omega))))
                have eX : (0 : Int) = tk_so T n (tk_at T n q0) := by
                  rw [hf]; unfold tk_so
                  first | (exfalso; omega) | (rw [if_pos (by omega)]; done) | (rw [if_neg (by omega)]; omega)
                have eY : (a8 : Int) = ((tk_at T n q0 : Nat) : Int) := by rw [hf]; omega
                have eZ : (a8 + 1 : Int) = ((tk_to T n (tk_at T n q0) : Nat) : Int) := by
                  rw [hf]; unfold tk_to
                  first | (exfalso; omega) | (rw [if_pos (by omega)]; omega) | (rw [if_neg (by omega), if_neg (by omega)]; omega)
                exact z_vret C hr hlk dX7_peek_178 (by decide) (by decide) ⟨rfl, rfl, rfl, (hgy89).trans (rdC_c eX eY eZ), fun j j1 => by rw [egy88, va_up_ne _ _ (by omega)]; rw [egy81, va_up_ne _ _ (by omega)]; exact f3 j j1⟩
            · refine z_aload_n C 0 dX7_peek_72 rfl ?_
              refine z_get (v := .ref (ad 1)) C (lt_K hN (rfl : Nat.blt (2) 952 = true)) hay6 f1 rfl inA_X7 2 (by decide) q_46 rfl rfl dX7_peek_73 ?_
              refine z_aload_n C 0 dX7_peek_76 rfl ?_
              refine z_get (v := .int (zI (a8))) C (lt_K hN (rfl : Nat.blt (2) 952 = true)) hay6 f1 rfl inA_X7 5 (by decide) q_49 rfl rfl dX7_peek_77 ?_
              refine z_bald C (lt_K hN (rfl : Nat.blt (1) 952 = true)) hay7 ((f3 _ (by omega)).trans hg1) (na) (by omega) (by omega) (by decide) dX7_peek_80 ?_
              have hrfy90 := hTr (na) (by omega)
              refine z_cS (As := [.int (zI (tp (na)))]) (rest := [.ref (ad 2)]) C (c_xType l D A cs tt N ad _ (tp (na)) (by omega)) ms_yX7_typeOf q_746 hd_yX7_typeOf (by decide) (Nat.le_of_ble_eq_true rfl) (by decide) dX7_peek_81 rfl (kI0 fun vy91 gvy91 hvy91 => ?_)
              obtain ⟨hvy91, rfl⟩ := hvy91
              rw [hT.ty (k := na) (by omega)] at hvy91
              have hbvy91 := tk_ty_c (T (na))
              have hqvy91 : 1 ≤ vy91 ∧ vy91 ≤ 5 := by omega
              clear hbvy91
              refine z_goto (tgt := 88) C dX7_peek_84 (by decide) ?_
              refine z_put (fs' := [.int (zI (pl)), .int (zI (co)), .ref (ad 1), .int (zI ((n : Int))), .int (zI (vy91)), .int (zI (a8)), .int (zI ((q0 : Int))), .int (zI (tk)), .int (zI (td))]) C (lt_K hN (rfl : Nat.blt (2) 952 = true)) hay6 f1 tyX7 tyX7_ok nmX7 rfl inA_X7 4 (by decide) q_48 rfl rfl rfl rfl (Nat.le_of_ble_eq_true rfl) rfl dX7_peek_88 (fun gy92 egy93 => ?_)
              have hgy94 := up_s egy93
              refine z_aload_n C 0 dX7_peek_91 rfl ?_
              refine z_aload_n C 0 dX7_peek_92 rfl ?_
              refine z_get (v := .int (zI (a8))) C (lt_K hN (rfl : Nat.blt (2) 952 = true)) hay6 hgy94 rfl inA_X7 5 (by decide) q_49 rfl rfl dX7_peek_93 ?_
              refine z_aload_n C 0 dX7_peek_96 rfl ?_
              refine z_get (v := .int (zI ((n : Int)))) C (lt_K hN (rfl : Nat.blt (2) 952 = true)) hay6 hgy94 rfl inA_X7 3 (by decide) q_47 rfl rfl dX7_peek_97 ?_
              refine z_icmp_ge (tgt := 112) C dX7_peek_100 (by decide) (by omega) (by omega) (fun hby95 => ?_) (fun hby95 => ?_)
              · refine z_aload_n C 0 dX7_peek_112 rfl ?_
                refine z_get (v := .int (zI ((n : Int)))) C (lt_K hN (rfl : Nat.blt (2) 952 = true)) hay6 hgy94 rfl inA_X7 3 (by decide) q_47 rfl rfl dX7_peek_113 ?_
                refine z_put (fs' := [.int (zI (pl)), .int (zI (co)), .ref (ad 1), .int (zI ((n : Int))), .int (zI (vy91)), .int (zI (a8)), .int (zI ((n : Int))), .int (zI (tk)), .int (zI (td))]) C (lt_K hN (rfl : Nat.blt (2) 952 = true)) hay6 hgy94 tyX7 tyX7_ok nmX7 rfl inA_X7 6 (by decide) q_50 rfl rfl rfl rfl (Nat.le_of_ble_eq_true rfl) rfl dX7_peek_116 (fun gy96 egy97 => ?_)
                have hgy98 := up_s egy97
                refine z_aload_n C 0 dX7_peek_119 rfl ?_
                refine z_get (v := .int (zI (vy91))) C (lt_K hN (rfl : Nat.blt (2) 952 = true)) hay6 hgy98 rfl inA_X7 4 (by decide) q_48 rfl rfl dX7_peek_120 ?_
                refine z_iconst (z := 1) C dX7_peek_123 rfl ?_
                refine z_icmp_eq (tgt := 135) C dX7_peek_124 (by decide) (by omega) (by omega) (fun hby99 => ?_) (fun hby99 => ?_)
                · have lp135 : ∀ (n9 : Nat) (b8 : Int) (t8 : Int) (a7 : Int) (nb : Nat) (na : Nat) (g1 : Nat → va_E), ((n : Int) - b8).toNat = n9 → (g1 2 = rdC ad (pl) (co) ((n : Int)) (t8) (a7) (b8) (tk) (td)) → (∀ j, j ≠ 2 → g1 j = g j) → (a7 = (na : Int) ∧ b8 = (nb : Int)) → (na < n ∧ na < nb ∧ nb ≤ n) → (t8 = tk_ty (T na)) → (t8 = 1 ∨ t8 = 2) → (tk_at T n q0 = na) → (tk_rn (fun c => decide (tk_ty c = tk_ty (T na))) T n nb = tk_rn (fun c => decide (tk_ty c = tk_ty (T na))) T n (na + 1)) → zV p l e ({ frames := 2, cells := 0, slots := 0, locals := 120 } : Room) s m ([.ref (ad 2)] : List Value).toArray below meth c (MQ below (zPost D A (rV0 N ad fun g' => g' 2 = rdC ad pl co (n : Int) (tk_so T n (tk_at T n q0)) ((tk_at T n q0 : Nat) : Int) ((tk_to T n (tk_at T n q0) : Nat) : Int) tk td ∧ ∀ j, j ≠ 2 → g' j = g j)) ([.ref (ad 2)] : List Value).toArray s ({ frames := 2, cells := 0, slots := 0, locals := 120 } : Room).cells ({ frames := 2, cells := 0, slots := 0, locals := 120 } : Room).slots A) D A 1 (N) ad g1 (0) (0) 135 [(0, .ref (ad 2))] [] := by
                    intro n9
                    induction n9 using Nat.strongRecOn with
                    | ind n9 ih_lp135 =>
                      intro b8 t8 a7 nb na g1 hm9 f1 f3 h1 h2 h3 h4 hf hi2
                      have hay100 : zAt ad (2) (ad 2) := rfl
                      have hay101 : zAt ad (1) (ad 1) := rfl
                      refine z_aload_n C 0 dX7_peek_135 rfl ?_
                      refine z_get (v := .int (zI (b8))) C (lt_K hN (rfl : Nat.blt (2) 952 = true)) hay100 f1 rfl inA_X7 6 (by decide) q_50 rfl rfl dX7_peek_136 ?_
                      refine z_aload_n C 0 dX7_peek_139 rfl ?_
                      refine z_get (v := .int (zI ((n : Int)))) C (lt_K hN (rfl : Nat.blt (2) 952 = true)) hay100 f1 rfl inA_X7 3 (by decide) q_47 rfl rfl dX7_peek_140 ?_
                      refine z_icmp_ge (tgt := 178) C dX7_peek_143 (by decide) (by omega) (by omega) (fun hby102 => ?_) (fun hby102 => ?_)
                      · have eX : (t8 : Int) = tk_so T n (tk_at T n q0) := by
                          rw [hf]; unfold tk_so
                          first | (exfalso; omega) | (rw [if_pos (by omega)]; done) | (rw [if_neg (by omega)]; omega)
                        have eY : (a7 : Int) = ((tk_at T n q0 : Nat) : Int) := by rw [hf]; omega
                        have eZ : (b8 : Int) = ((tk_to T n (tk_at T n q0) : Nat) : Int) := by
                          rw [hf]; unfold tk_to
                          rw [if_neg (by omega), if_pos (by omega), ← hi2, tk_rn_end (by first | exact Or.inl (by omega) | exact Or.inr (decide_eq_false (by omega)))]; omega
                        exact z_vret C hr hlk dX7_peek_178 (by decide) (by decide) ⟨rfl, rfl, rfl, (f1).trans (rdC_c eX eY eZ), fun j j1 => by exact f3 j j1⟩
                      · refine z_aload_n C 0 dX7_peek_146 rfl ?_
                        refine z_get (v := .ref (ad 1)) C (lt_K hN (rfl : Nat.blt (2) 952 = true)) hay100 f1 rfl inA_X7 2 (by decide) q_46 rfl rfl dX7_peek_147 ?_
                        refine z_aload_n C 0 dX7_peek_150 rfl ?_
                        refine z_get (v := .int (zI (b8))) C (lt_K hN (rfl : Nat.blt (2) 952 = true)) hay100 f1 rfl inA_X7 6 (by decide) q_50 rfl rfl dX7_peek_151 ?_
                        refine z_bald C (lt_K hN (rfl : Nat.blt (1) 952 = true)) hay101 ((f3 _ (by omega)).trans hg1) (nb) (by omega) (by omega) (by decide) dX7_peek_154 ?_
                        have hrfy103 := hTr (nb) (by omega)
                        refine z_cS (As := [.int (zI (tp (nb)))]) (rest := []) C (c_xType l D A cs tt N ad _ (tp (nb)) (by omega)) ms_yX7_typeOf q_746 hd_yX7_typeOf (by decide) (Nat.le_of_ble_eq_true rfl) (by decide) dX7_peek_155 rfl (kI0 fun vy104 gvy104 hvy104 => ?_)
                        obtain ⟨hvy104, rfl⟩ := hvy104
                        rw [hT.ty (k := nb) (by omega)] at hvy104
                        have hbvy104 := tk_ty_c (T (nb))
                        have hqvy104 : 1 ≤ vy104 ∧ vy104 ≤ 5 := by omega
                        clear hbvy104
                        refine z_aload_n C 0 dX7_peek_158 rfl ?_
                        refine z_get (v := .int (zI (t8))) C (lt_K hN (rfl : Nat.blt (2) 952 = true)) hay100 f1 rfl inA_X7 4 (by decide) q_48 rfl rfl dX7_peek_159 ?_
                        refine z_icmp_ne (tgt := 178) C dX7_peek_162 (by decide) (by omega) (by omega) (fun hby105 => ?_) (fun hby105 => ?_)
                        · have eX : (t8 : Int) = tk_so T n (tk_at T n q0) := by
                            rw [hf]; unfold tk_so
                            first | (exfalso; omega) | (rw [if_pos (by omega)]; done) | (rw [if_neg (by omega)]; omega)
                          have eY : (a7 : Int) = ((tk_at T n q0 : Nat) : Int) := by rw [hf]; omega
                          have eZ : (b8 : Int) = ((tk_to T n (tk_at T n q0) : Nat) : Int) := by
                            rw [hf]; unfold tk_to
                            rw [if_neg (by omega), if_pos (by omega), ← hi2, tk_rn_end (by first | exact Or.inl (by omega) | exact Or.inr (decide_eq_false (by omega)))]; omega
                          exact z_vret C hr hlk dX7_peek_178 (by decide) (by decide) ⟨rfl, rfl, rfl, (f1).trans (rdC_c eX eY eZ), fun j j1 => by exact f3 j j1⟩
                        · refine z_aload_n C 0 dX7_peek_165 rfl ?_
                          refine z_dup C dX7_peek_166 rfl ?_
                          refine z_get (v := .int (zI (b8))) C (lt_K hN (rfl : Nat.blt (2) 952 = true)) hay100 f1 rfl inA_X7 6 (by decide) q_50 rfl rfl dX7_peek_167 ?_
                          refine z_iconst (z := 1) C dX7_peek_170 rfl ?_
                          refine z_iadd C dX7_peek_171 ?_
                          refine z_put (fs' := [.int (zI (pl)), .int (zI (co)), .ref (ad 1), .int (zI ((n : Int))), .int (zI (t8)), .int (zI (a7)), .int (zI (b8 + 1)), .int (zI (tk)), .int (zI (td))]) C (lt_K hN (rfl : Nat.blt (2) 952 = true)) hay100 f1 tyX7 tyX7_ok nmX7 rfl inA_X7 6 (by decide) q_50 rfl rfl rfl rfl (Nat.le_of_ble_eq_true rfl) rfl dX7_peek_172 (fun gy106 egy107 => ?_)
                          have hgy108 := up_s egy107
                          refine z_goto (tgt := 135) C dX7_peek_175 (by decide) ?_
                          refine z_lv (lv' := [(0, .ref (ad 2))]) [0] rfl ?_
                          exact ih_lp135 _ (by omega) (b8 + 1) (t8) (a7) (nb + 1) na gy106 rfl hgy108 (fun j j1 => by rw [egy107, va_up_ne _ _ (by omega)]; exact f3 j j1) (by omega) (by omega) (by omega) (by omega) hf ((tk_rn_go (by omega) (decide_eq_true (by omega))).symm.trans hi2)
                  refine z_lv (lv' := [(0, .ref (ad 2))]) [0] rfl ?_
                  have hf : tk_at T n q0 = na := hi.symm.trans (tk_rn_end (by first | exact Or.inl (by omega) | exact Or.inr (hT.nb (by omega) (by omega))))
                  first
                    | (exfalso; omega; done)
                    | exact lp135 _ ((n : Int)) (vy91) (a8) (na + 1) na gy96 rfl hgy98 (fun j j1 => by rw [egy97, va_up_ne _ _ (by omega)]; rw [egy93, va_up_ne _ _ (by omega)]; exact f3 j j1) (by omega) (by omega) (by omega) (by omega) hf rfl
                · refine z_aload_n C 0 dX7_peek_127 rfl ?_
                  refine z_get (v := .int (zI (vy91))) C (lt_K hN (rfl : Nat.blt (2) 952 = true)) hay6 hgy98 rfl inA_X7 4 (by decide) q_48 rfl rfl dX7_peek_128 ?_
                  refine z_iconst (z := 2) C dX7_peek_131 rfl ?_
                  refine z_icmp_ne (tgt := 178) C dX7_peek_132 (by decide) (by omega) (by omega) (fun hby109 => ?_) (fun hby109 => ?_)
                  · have hf : tk_at T n q0 = na := hi.symm.trans (tk_rn_end (by first | exact Or.inl (by omega) | exact Or.inr (hT.nb (by omega) (by omega))))
                    have eX : (vy91 : Int) = tk_so T n (tk_at T n q0) := by
                      rw [hf]; unfold tk_so
                      first | (exfalso; omega) | (rw [if_pos (by omega)]; done) | (rw [if_neg (by omega)]; omega)
                    have eY : (a8 : Int) = ((tk_at T n q0 : Nat) : Int) := by rw [hf]; omega
                    have eZ : ((n : Int) : Int) = ((tk_to T n (tk_at T n q0) : Nat) : Int) := by
                      rw [hf]; unfold tk_to
                      first | (exfalso; omega) | (rw [if_pos (by omega)]; omega) | (rw [if_neg (by omega), if_neg (by omega)]; omega)
                    exact z_vret C hr hlk dX7_peek_178 (by decide) (by decide) ⟨rfl, rfl, rfl, (hgy98).trans (rdC_c eX eY eZ), fun j j1 => by rw [egy97, va_up_ne _ _ (by omega)]; rw [egy93, va_up_ne _ _ (by omega)]; exact f3 j j1⟩
                  · have lp135 : ∀ (n9 : Nat) (b8 : Int) (t8 : Int) (a7 : Int) (nb : Nat) (na : Nat) (g1 : Nat → va_E), ((n : Int) - b8).toNat = n9 → (g1 2 = rdC ad (pl) (co) ((n : Int)) (t8) (a7) (b8) (tk) (td)) → (∀ j, j ≠ 2 → g1 j = g j) → (a7 = (na : Int) ∧ b8 = (nb : Int)) → (na < n ∧ na < nb ∧ nb ≤ n) → (t8 = tk_ty (T na)) → (t8 = 1 ∨ t8 = 2) → (tk_at T n q0 = na) → (tk_rn (fun c => decide (tk_ty c = tk_ty (T na))) T n nb = tk_rn (fun c => decide (tk_ty c = tk_ty (T na))) T n (na + 1)) → zV p l e ({ frames := 2, cells := 0, slots := 0, locals := 120 } : Room) s m ([.ref (ad 2)] : List Value).toArray below meth c (MQ below (zPost D A (rV0 N ad fun g' => g' 2 = rdC ad pl co (n : Int) (tk_so T n (tk_at T n q0)) ((tk_at T n q0 : Nat) : Int) ((tk_to T n (tk_at T n q0) : Nat) : Int) tk td ∧ ∀ j, j ≠ 2 → g' j = g j)) ([.ref (ad 2)] : List Value).toArray s ({ frames := 2, cells := 0, slots := 0, locals := 120 } : Room).cells ({ frames := 2, cells := 0, slots := 0, locals := 120 } : Room).slots A) D A 1 (N) ad g1 (0) (0) 135 [(0, .ref (ad 2))] [] := by
                      intro n9
                      induction n9 using Nat.strongRecOn with
                      | ind n9 ih_lp135 =>
                        intro b8 t8 a7 nb na g1 hm9 f1 f3 h1 h2 h3 h4 hf hi2
                        have hay110 : zAt ad (2) (ad 2) := rfl
                        have hay111 : zAt ad (1) (ad 1) := rfl
                        refine z_aload_n C 0 dX7_peek_135 rfl ?_
                        refine z_get (v := .int (zI (b8))) C (lt_K hN (rfl : Nat.blt (2) 952 = true)) hay110 f1 rfl inA_X7 6 (by decide) q_50 rfl rfl dX7_peek_136 ?_
                        refine z_aload_n C 0 dX7_peek_139 rfl ?_
                        refine z_get (v := .int (zI ((n : Int)))) C (lt_K hN (rfl : Nat.blt (2) 952 = true)) hay110 f1 rfl inA_X7 3 (by decide) q_47 rfl rfl dX7_peek_140 ?_
                        refine z_icmp_ge (tgt := 178) C dX7_peek_143 (by decide) (by omega) (by omega) (fun hby112 => ?_) (fun hby112 => ?_)
                        · have eX : (t8 : Int) = tk_so T n (tk_at T n q0) := by
                            rw [hf]; unfold tk_so
                            first | (exfalso; omega) | (rw [if_pos (by omega)]; done) | (rw [if_neg (by omega)]; omega)
                          have eY : (a7 : Int) = ((tk_at T n q0 : Nat) : Int) := by rw [hf]; omega
                          have eZ : (b8 : Int) = ((tk_to T n (tk_at T n q0) : Nat) : Int) := by
                            rw [hf]; unfold tk_to
                            rw [if_neg (by omega), if_pos (by omega), ← hi2, tk_rn_end (by first | exact Or.inl (by omega) | exact Or.inr (decide_eq_false (by omega)))]; omega
                          exact z_vret C hr hlk dX7_peek_178 (by decide) (by decide) ⟨rfl, rfl, rfl, (f1).trans (rdC_c eX eY eZ), fun j j1 => by exact f3 j j1⟩
                        · refine z_aload_n C 0 dX7_peek_146 rfl ?_
                          refine z_get (v := .ref (ad 1)) C (lt_K hN (rfl : Nat.blt (2) 952 = true)) hay110 f1 rfl inA_X7 2 (by decide) q_46 rfl rfl dX7_peek_147 ?_
                          refine z_aload_n C 0 dX7_peek_150 rfl ?_
                          refine z_get (v := .int (zI (b8))) C (lt_K hN (rfl : Nat.blt (2) 952 = true)) hay110 f1 rfl inA_X7 6 (by decide) q_50 rfl rfl dX7_peek_151 ?_
                          refine z_bald C (lt_K hN (rfl : Nat.blt (1) 952 = true)) hay111 ((f3 _ (by omega)).trans hg1) (nb) (by omega) (by omega) (by decide) dX7_peek_154 ?_
                          have hrfy113 := hTr (nb) (by omega)
                          refine z_cS (As := [.int (zI (tp (nb)))]) (rest := []) C (c_xType l D A cs tt N ad _ (tp (nb)) (by omega)) ms_yX7_typeOf q_746 hd_yX7_typeOf (by decide) (Nat.le_of_ble_eq_true rfl) (by decide) dX7_peek_155 rfl (kI0 fun vy114 gvy114 hvy114 => ?_)
                          obtain ⟨hvy114, rfl⟩ := hvy114
                          rw [hT.ty (k := nb) (by omega)] at hvy114
                          have hbvy114 := tk_ty_c (T (nb))
                          have hqvy114 : 1 ≤ vy114 ∧ vy114 ≤ 5 := by omega
                          clear hbvy114
                          refine z_aload_n C 0 dX7_peek_158 rfl ?_
                          refine z_get (v := .int (zI (t8))) C (lt_K hN (rfl : Nat.blt (2) 952 = true)) hay110 f1 rfl inA_X7 4 (by decide) q_48 rfl rfl dX7_peek_159 ?_
                          refine z_icmp_ne (tgt := 178) C dX7_peek_162 (by decide) (by omega) (by omega) (fun hby115 => ?_) (fun hby115 => ?_)
                          · have eX : (t8 : Int) = tk_so T n (tk_at T n q0) := by
                              rw [hf]; unfold tk_so
                              first | (exfalso; omega) | (rw [if_pos (by omega)]; done) | (rw [if_neg (by omega)]; omega)
                            have eY : (a7 : Int) = ((tk_at T n q0 : Nat) : Int) := by rw [hf]; omega
                            have eZ : (b8 : Int) = ((tk_to T n (tk_at T n q0) : Nat) : Int) := by
                              rw [hf]; unfold tk_to
                              rw [if_neg (by omega), if_pos (by omega), ← hi2, tk_rn_end (by first | exact Or.inl (by omega) | exact Or.inr (decide_eq_false (by omega)))]; omega
                            exact z_vret C hr hlk dX7_peek_178 (by decide) (by decide) ⟨rfl, rfl, rfl, (f1).trans (rdC_c eX eY eZ), fun j j1 => by exact f3 j j1⟩
                          · refine z_aload_n C 0 dX7_peek_165 rfl ?_
                            refine z_dup C dX7_peek_166 rfl ?_
                            refine z_get (v := .int (zI (b8))) C (lt_K hN (rfl : Nat.blt (2) 952 = true)) hay110 f1 rfl inA_X7 6 (by decide) q_50 rfl rfl dX7_peek_167 ?_
                            refine z_iconst (z := 1) C dX7_peek_170 rfl ?_
                            refine z_iadd C dX7_peek_171 ?_
                            refine z_put (fs' := [.int (zI (pl)), .int (zI (co)), .ref (ad 1), .int (zI ((n : Int))), .int (zI (t8)), .int (zI (a7)), .int (zI (b8 + 1)), .int (zI (tk)), .int (zI (td))]) C (lt_K hN (rfl : Nat.blt (2) 952 = true)) hay110 f1 tyX7 tyX7_ok nmX7 rfl inA_X7 6 (by decide) q_50 rfl rfl rfl rfl (Nat.le_of_ble_eq_true rfl) rfl dX7_peek_172 (fun gy116 egy117 => ?_)
                            have hgy118 := up_s egy117
                            refine z_goto (tgt := 135) C dX7_peek_175 (by decide) ?_
                            refine z_lv (lv' := [(0, .ref (ad 2))]) [0] rfl ?_
                            exact ih_lp135 _ (by omega) (b8 + 1) (t8) (a7) (nb + 1) na gy116 rfl hgy118 (fun j j1 => by rw [egy117, va_up_ne _ _ (by omega)]; exact f3 j j1) (by omega) (by omega) (by omega) (by omega) hf ((tk_rn_go (by omega) (decide_eq_true (by omega))).symm.trans hi2)
                    refine z_lv (lv' := [(0, .ref (ad 2))]) [0] rfl ?_
                    have hf : tk_at T n q0 = na := hi.symm.trans (tk_rn_end (by first | exact Or.inl (by omega) | exact Or.inr (hT.nb (by omega) (by omega))))
                    first
                      | (exfalso; omega; done)
                      | exact lp135 _ ((n : Int)) (vy91) (a8) (na + 1) na gy96 rfl hgy98 (fun j j1 => by rw [egy97, va_up_ne _ _ (by omega)]; rw [egy93, va_up_ne _ _ (by omega)]; exact f3 j j1) (by omega) (by omega) (by omega) (by omega) hf rfl
              · refine z_aload_n C 0 dX7_peek_103 rfl ?_
                refine z_get (v := .int (zI (a8))) C (lt_K hN (rfl : Nat.blt (2) 952 = true)) hay6 hgy94 rfl inA_X7 5 (by decide) q_49 rfl rfl dX7_peek_104 ?_
                refine z_iconst (z := 1) C dX7_peek_107 rfl ?_
                refine z_iadd C dX7_peek_108 ?_
                refine z_goto (tgt := 116) C dX7_peek_109 (by decide) ?_
                refine z_put (fs' := [.int (zI (pl)), .int (zI (co)), .ref (ad 1), .int (zI ((n : Int))), .int (zI (vy91)), .int (zI (a8)), .int (zI (a8 + 1)), .int (zI (tk)), .int (zI (td))]) C (lt_K hN (rfl : Nat.blt (2) 952 = true)) hay6 hgy94 tyX7 tyX7_ok nmX7 rfl inA_X7 6 (by decide) q_50 rfl rfl rfl rfl (Nat.le_of_ble_eq_true rfl) rfl dX7_peek_116 (fun gy119 egy120 => ?_)
                have hgy121 := up_s egy120
                refine z_aload_n C 0 dX7_peek_119 rfl ?_
                refine z_get (v := .int (zI (vy91))) C (lt_K hN (rfl : Nat.blt (2) 952 = true)) hay6 hgy121 rfl inA_X7 4 (by decide) q_48 rfl rfl dX7_peek_120 ?_
                refine z_iconst (z := 1) C dX7_peek_123 rfl ?_
                refine z_icmp_eq (tgt := 135) C dX7_peek_124 (by decide) (by omega) (by omega) (fun hby122 => ?_) (fun hby122 => ?_)
                · have lp135 : ∀ (n9 : Nat) (b8 : Int) (t8 : Int) (a7 : Int) (nb : Nat) (na : Nat) (g1 : Nat → va_E), ((n : Int) - b8).toNat = n9 → (g1 2 = rdC ad (pl) (co) ((n : Int)) (t8) (a7) (b8) (tk) (td)) → (∀ j, j ≠ 2 → g1 j = g j) → (a7 = (na : Int) ∧ b8 = (nb : Int)) → (na < n ∧ na < nb ∧ nb ≤ n) → (t8 = tk_ty (T na)) → (t8 = 1 ∨ t8 = 2) → (tk_at T n q0 = na) → (tk_rn (fun c => decide (tk_ty c = tk_ty (T na))) T n nb = tk_rn (fun c => decide (tk_ty c = tk_ty (T na))) T n (na + 1)) → zV p l e ({ frames := 2, cells := 0, slots := 0, locals := 120 } : Room) s m ([.ref (ad 2)] : List Value).toArray below meth c (MQ below (zPost D A (rV0 N ad fun g' => g' 2 = rdC ad pl co (n : Int) (tk_so T n (tk_at T n q0)) ((tk_at T n q0 : Nat) : Int) ((tk_to T n (tk_at T n q0) : Nat) : Int) tk td ∧ ∀ j, j ≠ 2 → g' j = g j)) ([.ref (ad 2)] : List Value).toArray s ({ frames := 2, cells := 0, slots := 0, locals := 120 } : Room).cells ({ frames := 2, cells := 0, slots := 0, locals := 120 } : Room).slots A) D A 1 (N) ad g1 (0) (0) 135 [(0, .ref (ad 2))] [] := by
                    intro n9
                    induction n9 using Nat.strongRecOn with
                    | ind n9 ih_lp135 =>
                      intro b8 t8 a7 nb na g1 hm9 f1 f3 h1 h2 h3 h4 hf hi2
                      have hay123 : zAt ad (2) (ad 2) := rfl
                      have hay124 : zAt ad (1) (ad 1) := rfl
                      refine z_aload_n C 0 dX7_peek_135 rfl ?_
                      refine z_get (v := .int (zI (b8))) C (lt_K hN (rfl : Nat.blt (2) 952 = true)) hay123 f1 rfl inA_X7 6 (by decide) q_50 rfl rfl dX7_peek_136 ?_
                      refine z_aload_n C 0 dX7_peek_139 rfl ?_
                      refine z_get (v := .int (zI ((n : Int)))) C (lt_K hN (rfl : Nat.blt (2) 952 = true)) hay123 f1 rfl inA_X7 3 (by decide) q_47 rfl rfl dX7_peek_140 ?_
                      refine z_icmp_ge (tgt := 178) C dX7_peek_143 (by decide) (by omega) (by omega) (fun hby125 => ?_) (fun hby125 => ?_)
                      · have eX : (t8 : Int) = tk_so T n (tk_at T n q0) := by
                          rw [hf]; unfold tk_so
                          first | (exfalso; omega) | (rw [if_pos (by omega)]; done) | (rw [if_neg (by omega)]; omega)
                        have eY : (a7 : Int) = ((tk_at T n q0 : Nat) : Int) := by rw [hf]; omega
                        have eZ : (b8 : Int) = ((tk_to T n (tk_at T n q0) : Nat) : Int) := by
                          rw [hf]; unfold tk_to
                          rw [if_neg (by omega), if_pos (by omega), ← hi2, tk_rn_end (by first | exact Or.inl (by omega) | exact Or.inr (decide_eq_false (by omega)))]; omega
                        exact z_vret C hr hlk dX7_peek_178 (by decide) (by decide) ⟨rfl, rfl, rfl, (f1).trans (rdC_c eX eY eZ), fun j j1 => by exact f3 j j1⟩
                      · refine z_aload_n C 0 dX7_peek_146 rfl ?_
                        refine z_get (v := .ref (ad 1)) C (lt_K hN (rfl : Nat.blt (2) 952 = true)) hay123 f1 rfl inA_X7 2 (by decide) q_46 rfl rfl dX7_peek_147 ?_
                        refine z_aload_n C 0 dX7_peek_150 rfl ?_
                        refine z_get (v := .int (zI (b8))) C (lt_K hN (rfl : Nat.blt (2) 952 = true)) hay123 f1 rfl inA_X7 6 (by decide) q_50 rfl rfl dX7_peek_151 ?_
                        refine z_bald C (lt_K hN (rfl : Nat.blt (1) 952 = true)) hay124 ((f3 _ (by omega)).trans hg1) (nb) (by omega) (by omega) (by decide) dX7_peek_154 ?_
                        have hrfy126 := hTr (nb) (by omega)
                        refine z_cS (As := [.int (zI (tp (nb)))]) (rest := []) C (c_xType l D A cs tt N ad _ (tp (nb)) (by omega)) ms_yX7_typeOf q_746 hd_yX7_typeOf (by decide) (Nat.le_of_ble_eq_true rfl) (by decide) dX7_peek_155 rfl (kI0 fun vy127 gvy127 hvy127 => ?_)
                        obtain ⟨hvy127, rfl⟩ := hvy127
                        rw [hT.ty (k := nb) (by omega)] at hvy127
                        have hbvy127 := tk_ty_c (T (nb))
                        have hqvy127 : 1 ≤ vy127 ∧ vy127 ≤ 5 := by omega
                        clear hbvy127
                        refine z_aload_n C 0 dX7_peek_158 rfl ?_
                        refine z_get (v := .int (zI (t8))) C (lt_K hN (rfl : Nat.blt (2) 952 = true)) hay123 f1 rfl inA_X7 4 (by decide) q_48 rfl rfl dX7_peek_159 ?_
                        refine z_icmp_ne (tgt := 178) C dX7_peek_162 (by decide) (by omega) (by omega) (fun hby128 => ?_) (fun hby128 => ?_)
                        · have eX : (t8 : Int) = tk_so T n (tk_at T n q0) := by
                            rw [hf]; unfold tk_so
                            first | (exfalso; omega) | (rw [if_pos (by omega)]; done) | (rw [if_neg (by omega)]; omega)
                          have eY : (a7 : Int) = ((tk_at T n q0 : Nat) : Int) := by rw [hf]; omega
                          have eZ : (b8 : Int) = ((tk_to T n (tk_at T n q0) : Nat) : Int) := by
                            rw [hf]; unfold tk_to
                            rw [if_neg (by omega), if_pos (by omega), ← hi2, tk_rn_end (by first | exact Or.inl (by omega) | exact Or.inr (decide_eq_false (by omega)))]; omega
                          exact z_vret C hr hlk dX7_peek_178 (by decide) (by decide) ⟨rfl, rfl, rfl, (f1).trans (rdC_c eX eY eZ), fun j j1 => by exact f3 j j1⟩
                        · refine z_aload_n C 0 dX7_peek_165 rfl ?_
                          refine z_dup C dX7_peek_166 rfl ?_
                          refine z_get (v := .int (zI (b8))) C (lt_K hN (rfl : Nat.blt (2) 952 = true)) hay123 f1 rfl inA_X7 6 (by decide) q_50 rfl rfl dX7_peek_167 ?_
                          refine z_iconst (z := 1) C dX7_peek_170 rfl ?_
                          refine z_iadd C dX7_peek_171 ?_
                          refine z_put (fs' := [.int (zI (pl)), .int (zI (co)), .ref (ad 1), .int (zI ((n : Int))), .int (zI (t8)), .int (zI (a7)), .int (zI (b8 + 1)), .int (zI (tk)), .int (zI (td))]) C (lt_K hN (rfl : Nat.blt (2) 952 = true)) hay123 f1 tyX7 tyX7_ok nmX7 rfl inA_X7 6 (by decide) q_50 rfl rfl rfl rfl (Nat.le_of_ble_eq_true rfl) rfl dX7_peek_172 (fun gy129 egy130 => ?_)
                          have hgy131 := up_s egy130
                          refine z_goto (tgt := 135) C dX7_peek_175 (by decide) ?_
                          refine z_lv (lv' := [(0, .ref (ad 2))]) [0] rfl ?_
                          exact ih_lp135 _ (by omega) (b8 + 1) (t8) (a7) (nb + 1) na gy129 rfl hgy131 (fun j j1 => by rw [egy130, va_up_ne _ _ (by omega)]; exact f3 j j1) (by omega) (by omega) (by omega) (by omega) hf ((tk_rn_go (by omega) (decide_eq_true (by omega))).symm.trans hi2)
                  refine z_lv (lv' := [(0, .ref (ad 2))]) [0] rfl ?_
                  have hf : tk_at T n q0 = na := hi.symm.trans (tk_rn_end (by first | exact Or.inl (by omega) | exact Or.inr (hT.nb (by omega) (by omega))))
                  first
                    | (exfalso; omega; done)
                    | exact lp135 _ (a8 + 1) (vy91) (a8) (na + 1) na gy119 rfl hgy121 (fun j j1 => by rw [egy120, va_up_ne _ _ (by omega)]; rw [egy93, va_up_ne _ _ (by omega)]; exact f3 j j1) (by omega) (by omega) (by omega) (by omega) hf rfl
                · refine z_aload_n C 0 dX7_peek_127 rfl ?_
                  refine z_get (v := .int (zI (vy91))) C (lt_K hN (rfl : Nat.blt (2) 952 = true)) hay6 hgy121 rfl inA_X7 4 (by decide) q_48 rfl rfl dX7_peek_128 ?_
                  refine z_iconst (z := 2) C dX7_peek_131 rfl ?_
                  refine z_icmp_ne (tgt := 178) C dX7_peek_132 (by decide) (by omega) (by omega) (fun hby132 => ?_) (fun hby132 => ?_)
                  · have hf : tk_at T n q0 = na := hi.symm.trans (tk_rn_end (by first | exact Or.inl (by omega) | exact Or.inr (hT.nb (by omega) (by omega))))
                    have eX : (vy91 : Int) = tk_so T n (tk_at T n q0) := by
                      rw [hf]; unfold tk_so
                      first | (exfalso; omega) | (rw [if_pos (by omega)]; done) | (rw [if_neg (by omega)]; omega)
                    have eY : (a8 : Int) = ((tk_at T n q0 : Nat) : Int) := by rw [hf]; omega
                    have eZ : (a8 + 1 : Int) = ((tk_to T n (tk_at T n q0) : Nat) : Int) := by
                      rw [hf]; unfold tk_to
                      first | (exfalso; omega) | (rw [if_pos (by omega)]; omega) | (rw [if_neg (by omega), if_neg (by omega)]; omega)
                    exact z_vret C hr hlk dX7_peek_178 (by decide) (by decide) ⟨rfl, rfl, rfl, (hgy121).trans (rdC_c eX eY eZ), fun j j1 => by rw [egy120, va_up_ne _ _ (by omega)]; rw [egy93, va_up_ne _ _ (by omega)]; exact f3 j j1⟩
                  · have lp135 : ∀ (n9 : Nat) (b8 : Int) (t8 : Int) (a7 : Int) (nb : Nat) (na : Nat) (g1 : Nat → va_E), ((n : Int) - b8).toNat = n9 → (g1 2 = rdC ad (pl) (co) ((n : Int)) (t8) (a7) (b8) (tk) (td)) → (∀ j, j ≠ 2 → g1 j = g j) → (a7 = (na : Int) ∧ b8 = (nb : Int)) → (na < n ∧ na < nb ∧ nb ≤ n) → (t8 = tk_ty (T na)) → (t8 = 1 ∨ t8 = 2) → (tk_at T n q0 = na) → (tk_rn (fun c => decide (tk_ty c = tk_ty (T na))) T n nb = tk_rn (fun c => decide (tk_ty c = tk_ty (T na))) T n (na + 1)) → zV p l e ({ frames := 2, cells := 0, slots := 0, locals := 120 } : Room) s m ([.ref (ad 2)] : List Value).toArray below meth c (MQ below (zPost D A (rV0 N ad fun g' => g' 2 = rdC ad pl co (n : Int) (tk_so T n (tk_at T n q0)) ((tk_at T n q0 : Nat) : Int) ((tk_to T n (tk_at T n q0) : Nat) : Int) tk td ∧ ∀ j, j ≠ 2 → g' j = g j)) ([.ref (ad 2)] : List Value).toArray s ({ frames := 2, cells := 0, slots := 0, locals := 120 } : Room).cells ({ frames := 2, cells := 0, slots := 0, locals := 120 } : Room).slots A) D A 1 (N) ad g1 (0) (0) 135 [(0, .ref (ad 2))] [] := by
                      intro n9
                      induction n9 using Nat.strongRecOn with
                      | ind n9 ih_lp135 =>
                        intro b8 t8 a7 nb na g1 hm9 f1 f3 h1 h2 h3 h4 hf hi2
                        have hay133 : zAt ad (2) (ad 2) := rfl
                        have hay134 : zAt ad (1) (ad 1) := rfl
                        refine z_aload_n C 0 dX7_peek_135 rfl ?_
                        refine z_get (v := .int (zI (b8))) C (lt_K hN (rfl : Nat.blt (2) 952 = true)) hay133 f1 rfl inA_X7 6 (by decide) q_50 rfl rfl dX7_peek_136 ?_
                        refine z_aload_n C 0 dX7_peek_139 rfl ?_
                        refine z_get (v := .int (zI ((n : Int)))) C (lt_K hN (rfl : Nat.blt (2) 952 = true)) hay133 f1 rfl inA_X7 3 (by decide) q_47 rfl rfl dX7_peek_140 ?_
                        refine z_icmp_ge (tgt := 178) C dX7_peek_143 (by decide) (by omega) (by omega) (fun hby135 => ?_) (fun hby135 => ?_)
                        · have eX : (t8 : Int) = tk_so T n (tk_at T n q0) := by
                            rw [hf]; unfold tk_so
                            first | (exfalso; omega) | (rw [if_pos (by omega)]; done) | (rw [if_neg (by omega)]; omega)
                          have eY : (a7 : Int) = ((tk_at T n q0 : Nat) : Int) := by rw [hf]; omega
                          have eZ : (b8 : Int) = ((tk_to T n (tk_at T n q0) : Nat) : Int) := by
                            rw [hf]; unfold tk_to
                            rw [if_neg (by omega), if_pos (by omega), ← hi2, tk_rn_end (by first | exact Or.inl (by omega) | exact Or.inr (decide_eq_false (by omega)))]; omega
                          exact z_vret C hr hlk dX7_peek_178 (by decide) (by decide) ⟨rfl, rfl, rfl, (f1).trans (rdC_c eX eY eZ), fun j j1 => by exact f3 j j1⟩
                        · refine z_aload_n C 0 dX7_peek_146 rfl ?_
                          refine z_get (v := .ref (ad 1)) C (lt_K hN (rfl : Nat.blt (2) 952 = true)) hay133 f1 rfl inA_X7 2 (by decide) q_46 rfl rfl dX7_peek_147 ?_
                          refine z_aload_n C 0 dX7_peek_150 rfl ?_
                          refine z_get (v := .int (zI (b8))) C (lt_K hN (rfl : Nat.blt (2) 952 = true)) hay133 f1 rfl inA_X7 6 (by decide) q_50 rfl rfl dX7_peek_151 ?_
                          refine z_bald C (lt_K hN (rfl : Nat.blt (1) 952 = true)) hay134 ((f3 _ (by omega)).trans hg1) (nb) (by omega) (by omega) (by decide) dX7_peek_154 ?_
                          have hrfy136 := hTr (nb) (by omega)
                          refine z_cS (As := [.int (zI (tp (nb)))]) (rest := []) C (c_xType l D A cs tt N ad _ (tp (nb)) (by omega)) ms_yX7_typeOf q_746 hd_yX7_typeOf (by decide) (Nat.le_of_ble_eq_true rfl) (by decide) dX7_peek_155 rfl (kI0 fun vy137 gvy137 hvy137 => ?_)
                          obtain ⟨hvy137, rfl⟩ := hvy137
                          rw [hT.ty (k := nb) (by omega)] at hvy137
                          have hbvy137 := tk_ty_c (T (nb))
                          have hqvy137 : 1 ≤ vy137 ∧ vy137 ≤ 5 := by omega
                          clear hbvy137
                          refine z_aload_n C 0 dX7_peek_158 rfl ?_
                          refine z_get (v := .int (zI (t8))) C (lt_K hN (rfl : Nat.blt (2) 952 = true)) hay133 f1 rfl inA_X7 4 (by decide) q_48 rfl rfl dX7_peek_159 ?_
                          refine z_icmp_ne (tgt := 178) C dX7_peek_162 (by decide) (by omega) (by omega) (fun hby138 => ?_) (fun hby138 => ?_)
                          · have eX : (t8 : Int) = tk_so T n (tk_at T n q0) := by
                              rw [hf]; unfold tk_so
                              first | (exfalso; omega) | (rw [if_pos (by omega)]; done) | (rw [if_neg (by omega)]; omega)
                            have eY : (a7 : Int) = ((tk_at T n q0 : Nat) : Int) := by rw [hf]; omega
                            have eZ : (b8 : Int) = ((tk_to T n (tk_at T n q0) : Nat) : Int) := by
                              rw [hf]; unfold tk_to
                              rw [if_neg (by omega), if_pos (by omega), ← hi2, tk_rn_end (by first | exact Or.inl (by omega) | exact Or.inr (decide_eq_false (by omega)))]; omega
                            exact z_vret C hr hlk dX7_peek_178 (by decide) (by decide) ⟨rfl, rfl, rfl, (f1).trans (rdC_c eX eY eZ), fun j j1 => by exact f3 j j1⟩
                          · refine z_aload_n C 0 dX7_peek_165 rfl ?_
                            refine z_dup C dX7_peek_166 rfl ?_
                            refine z_get (v := .int (zI (b8))) C (lt_K hN (rfl : Nat.blt (2) 952 = true)) hay133 f1 rfl inA_X7 6 (by decide) q_50 rfl rfl dX7_peek_167 ?_
                            refine z_iconst (z := 1) C dX7_peek_170 rfl ?_
                            refine z_iadd C dX7_peek_171 ?_
                            refine z_put (fs' := [.int (zI (pl)), .int (zI (co)), .ref (ad 1), .int (zI ((n : Int))), .int (zI (t8)), .int (zI (a7)), .int (zI (b8 + 1)), .int (zI (tk)), .int (zI (td))]) C (lt_K hN (rfl : Nat.blt (2) 952 = true)) hay133 f1 tyX7 tyX7_ok nmX7 rfl inA_X7 6 (by decide) q_50 rfl rfl rfl rfl (Nat.le_of_ble_eq_true rfl) rfl dX7_peek_172 (fun gy139 egy140 => ?_)
                            have hgy141 := up_s egy140
                            refine z_goto (tgt := 135) C dX7_peek_175 (by decide) ?_
                            refine z_lv (lv' := [(0, .ref (ad 2))]) [0] rfl ?_
                            exact ih_lp135 _ (by omega) (b8 + 1) (t8) (a7) (nb + 1) na gy139 rfl hgy141 (fun j j1 => by rw [egy140, va_up_ne _ _ (by omega)]; exact f3 j j1) (by omega) (by omega) (by omega) (by omega) hf ((tk_rn_go (by omega) (decide_eq_true (by omega))).symm.trans hi2)
                    refine z_lv (lv' := [(0, .ref (ad 2))]) [0] rfl ?_
                    have hf : tk_at T n q0 = na := hi.symm.trans (tk_rn_end (by first | exact Or.inl (by omega) | exact Or.inr (hT.nb (by omega) (by omega))))
                    first
                      | (exfalso; omega; done)
                      | exact lp135 _ (a8 + 1) (vy91) (a8) (na + 1) na gy119 rfl hgy121 (fun j j1 => by rw [egy120, va_up_ne _ _ (by omega)]; rw [egy93, va_up_ne _ _ (by omega)]; exact f3 j j1) (by omega) (by omega) (by omega) (by omega) hf rfl
          · refine z_aload_n C 0 dX7_peek_47 rfl ?_
            refine z_dup C dX7_peek_48 rfl ?_
            refine z_get (v := .int (zI (a8))) C (lt_K hN (rfl : Nat.blt (2) 952 = true)) hay6 f1 rfl inA_X7 5 (by decide) q_49 rfl rfl dX7_peek_49 ?_
            refine z_iconst (z := 1) C dX7_peek_52 rfl ?_
            refine z_iadd C dX7_peek_53 ?_
            refine z_put (fs' := [.int (zI (pl)), .int (zI (co)), .ref (ad 1), .int (zI ((n : Int))), .int (zI (ty)), .int (zI (a8 + 1)), .int (zI ((q0 : Int))), .int (zI (tk)), .int (zI (td))]) C (lt_K hN (rfl : Nat.blt (2) 952 = true)) hay6 f1 tyX7 tyX7_ok nmX7 rfl inA_X7 5 (by decide) q_49 rfl rfl rfl rfl (Nat.le_of_ble_eq_true rfl) rfl dX7_peek_54 (fun gy142 egy143 => ?_)
            have hgy144 := up_s egy143
            refine z_goto (tgt := 8) C dX7_peek_57 (by decide) ?_
            refine z_lv (lv' := [(0, .ref (ad 2))]) [0] rfl ?_
            exact ih_lp8 _ (by omega) (a8 + 1) (na + 1) gy142 rfl hgy144 (fun j j1 => by rw [egy143, va_up_ne _ _ (by omega)]; exact f3 j j1) (by omega) (by omega) ((tk_rn_go (by omega) ((hT.bl (by omega)).mpr (by omega))).symm.trans hi)
  refine z_lv (lv' := [(0, .ref (ad 2))]) [0] rfl ?_
  exact lp8 _ ((q0 : Int)) q0 gy3 rfl hgy5 (fun j j1 => by rw [egy4, va_up_ne _ _ (by omega)]) (by omega) (by omega) rfl

theorem tk_rn_all {P : Int → Bool} {T : Nat → Int} {n p j : Nat} (h1 : p ≤ j) (h2 : j < tk_rn P T n p) (hp : p ≤ n) : P (T j) = true := by
  have h9 : ∀ f p, p ≤ j → j < tk_rnA P T f p → P (T j) = true := by
    intro f
    induction f with
    | zero => intro p a b; exact absurd b (by show ¬ j < p; omega)
    | succ f ih =>
      intro p a b
      by_cases e : P (T p) = true
      · by_cases e2 : p = j
        · rw [← e2]; exact e
        · refine ih (p + 1) (by omega) ?_
          have b2 : j < (if P (T p) = true then tk_rnA P T f (p + 1) else p) := b
          rw [if_pos e] at b2
          exact b2
      · exfalso
        have b2 : j < (if P (T p) = true then tk_rnA P T f (p + 1) else p) := b
        rw [if_neg e] at b2
        omega
  exact h9 _ p h1 h2
theorem tk_dig {T : Nat → Int} {n f j : Nat} (h : tk_so T n f = 2) (h1 : f ≤ j) (h2 : j < tk_to T n f) : 48 ≤ T j ∧ T j ≤ 57 := by
  have hn : ¬ n ≤ f := fun e => by rw [tk_so_0.mpr e] at h; exact absurd h (by decide)
  have hs : tk_ty (T f) = 2 := by unfold tk_so at h; rw [if_neg hn] at h; exact h
  have hj : tk_ty (T j) = 2 := by
    by_cases e : j = f
    · rw [e]; exact hs
    · unfold tk_to at h2
      rw [if_neg hn, if_pos (Or.inr hs)] at h2
      have h3 := tk_rn_all (P := fun c => decide (tk_ty c = tk_ty (T f))) (p := f + 1) (by omega) h2 (by omega)
      have h4 : tk_ty (T j) = tk_ty (T f) := of_decide_eq_true h3
      rw [h4]; exact hs
  have h5 := tk_ty_c (T j)
  omega
theorem tk_dv_m {T : Nat → Int} {f : Nat} {m : Nat} (h : ∀ j, f ≤ j → j < f + m → 48 ≤ T j ∧ T j ≤ 57) : ∀ k, k ≤ m → 0 ≤ tk_dv T f k ∧ ∀ i, i ≤ k → tk_dv T f i ≤ tk_dv T f k := by
  intro k
  induction k with
  | zero => intro _; exact ⟨Int.le_refl 0, fun i hi => by rw [show i = 0 by omega]; exact Int.le_refl _⟩
  | succ k ih =>
    intro hk
    obtain ⟨a, b⟩ := ih (by omega)
    have hd := h (f + k) (by omega) (by omega)
    have e : tk_dv T f (k + 1) = 10 * tk_dv T f k + T (f + k) - 48 := rfl
    refine ⟨by omega, fun i hi => ?_⟩
    by_cases e2 : i = k + 1
    · rw [e2]; exact Int.le_refl _
    · have := b i (by omega)
      omega
theorem and255 {x : Int} (h : 0 ≤ x ∧ x ≤ 255) : zI x &&& zI 255 = zI x := by
  obtain ⟨n, rfl⟩ := Int.eq_ofNat_of_zero_le h.1
  rw [← zI_nat, ← Int32.toBitVec_inj]
  apply BitVec.eq_of_toNat_eq
  have hn : n < 256 := by omega
  have e : n &&& 255 = n := by
    rw [show (255 : Nat) = 2 ^ 8 - 1 by decide, Nat.and_two_pow_sub_one_eq_mod]
    omega
  simp
  rw [show (zI 255).toBitVec.toNat = 255 by decide, Nat.mod_eq_of_lt (by omega)]
  exact e
theorem zq_skb {q : String × Nat × String × Nat × List Int32} (hq : q ∈ SKL) {j : Nat} (hj : j < q.2.2.2.2.length) {y : Int} (e : q.2.2.2.2.getD j 0 = zI y) (hy : -2147483648 ≤ y ∧ y ≤ 2147483647) : 0 ≤ y ∧ y ≤ 127 := by
  have h1 : q.2.2.2.2.getD j 0 ∈ q.2.2.2.2 := by
    rw [List.getD_eq_getElem?_getD, List.getElem?_eq_getElem hj]
    exact List.getElem_mem hj
  have h2 := SKL_by q hq _ h1
  rw [e, zI_to hy] at h2
  exact h2
/-- a constant's letters -/
def kb_ (q : String × Nat × String × Nat × List Int32) : List Int := q.2.2.2.2.map Int32.toInt
theorem kb_len (q : String × Nat × String × Nat × List Int32) : (kb_ q).length = q.2.2.2.2.length := List.length_map _
theorem kb_get {q : String × Nat × String × Nat × List Int32} {j : Nat} (hj : j < q.2.2.2.2.length) {y : Int} (e : q.2.2.2.2.getD j 0 = zI y) (hy : -2147483648 ≤ y ∧ y ≤ 2147483647) : (kb_ q).getD j 0 = y := by
  unfold kb_
  rw [List.getD_eq_getElem?_getD, List.getElem?_map, List.getElem?_eq_getElem hj]
  rw [List.getD_eq_getElem?_getD, List.getElem?_eq_getElem hj] at e
  have e2 : q.2.2.2.2[j] = zI y := e
  show Int32.toInt q.2.2.2.2[j] = y
  rw [e2, zI_to hy]
theorem tk_is_c {T : Nat → Int} {n f : Nat} {w : List Int} : tk_is T n f w = true ↔ (tk_so T n f = 1 ∧ tk_to T n f = f + w.length ∧ ∀ j, j < w.length → T (f + j) = w.getD j 0) := by
  unfold tk_is
  rw [Bool.and_eq_true, Bool.and_eq_true, decide_eq_true_eq, decide_eq_true_eq, tk_eq_i]
theorem tk_is_n {T : Nat → Int} {n f : Nat} {w : List Int} (h : ¬ (tk_so T n f = 1 ∧ tk_to T n f = f + w.length ∧ ∀ j, j < w.length → T (f + j) = w.getD j 0)) : tk_is T n f w = false := Bool.eq_false_iff.mpr (fun e => h (tk_is_c.mp e))

set_option maxRecDepth 100000 in
set_option maxHeartbeats 4000000 in
theorem c_xL1 (l : Launch) (D : va_G) (A : Nat → Prop) (cs : Nat → ClassId) (tt : Nat) (N : Nat) (ad : Nat → Nat) (g : Nat → va_E) (q : String × Nat × String × Nat × List Int32) (hq : q ∈ SKL) (z : Int) (hz : 0 ≤ z ∧ z < (q.2.2.2.2.length : Int)) : zM l yJ1_charAt_3b067 cJ1_charAt_3b067 2 (some .char) ({ frames := 3, cells := 0, slots := 0, locals := 180 } : Room) D A cs tt N ad g [.ref (cs (200 + q.2.2.2.1)), .int (zI (z))] (rI0 N ad fun r g' => (0 ≤ r ∧ r ≤ 127) ∧ q.2.2.2.2.getD ((z).toNat) 0 = zI r ∧ g = g') := by
  have hqL := SKL_len q hq
  refine z_of (by decide) (Nat.le_of_ble_eq_true rfl) ?_
  intro p e s m below meth c C hr hlk hnm
  refine z_lv (lv' := [(0, .ref (cs (200 + q.2.2.2.1))), (1, .int (zI (z)))]) [0, 1] rfl ?_
  refine z_iload_n C 1 dJ1_charAt_3b067_0 rfl ?_
  refine z_aload_n C 0 dJ1_charAt_3b067_1 rfl ?_
  refine z_salen C hq dJ1_charAt_3b067_2 ?_
  refine z_cS (As := [.int (zI (z)), .int (zI ((q.2.2.2.2.length : Int)))]) (rest := []) C (c_ckS l D A cs tt N ad _ (z) ((q.2.2.2.2.length : Int)) (by omega)) ms_yJ0_checkIndex_df160 q_778 hd_yJ0_checkIndex_df160 (by decide) (Nat.le_of_ble_eq_true rfl) (by decide) dJ1_charAt_3b067_3 rfl (kV0 fun gvy1 hvy1 => ?_)
  obtain rfl := hvy1
  refine z_aload_n C 0 dJ1_charAt_3b067_6 rfl ?_
  refine z_iload_n C 1 dJ1_charAt_3b067_7 rfl ?_
  obtain ⟨yy2, eyy2, hyy2⟩ := zI_of (q.2.2.2.2.getD ((z).toNat) 0)
  refine z_sbald (y := yy2) C hq ((z).toNat) (by omega) (by omega) eyy2 dJ1_charAt_3b067_8 ?_
  refine z_sipush (z := 255) C dJ1_charAt_3b067_9 (by decide) ?_
  have hyb := zq_skb hq (by omega) eyy2 hyy2
  refine z_iand (z := yy2) C dJ1_charAt_3b067_12 (and255 (by omega)) ?_
  refine z_i2c (z := yy2) C dJ1_charAt_3b067_13 (m16 (by omega)) ?_
  exact z_zret C hr hlk dJ1_charAt_3b067_14 (nc16 (by omega)) (by decide) (by decide) ⟨yy2, rfl, rfl, rfl, by omega, eyy2, rfl⟩

set_option maxRecDepth 100000 in
set_option maxHeartbeats 4000000 in
theorem c_xChar (l : Launch) (D : va_G) (A : Nat → Prop) (cs : Nat → ClassId) (tt : Nat) (N : Nat) (ad : Nat → Nat) (g : Nat → va_E) (q : String × Nat × String × Nat × List Int32) (hq : q ∈ SKL) (z : Int) (hz : 0 ≤ z ∧ z < (q.2.2.2.2.length : Int)) : zM l yJ0_charAt_5068e cJ0_charAt_5068e 2 (some .char) ({ frames := 4, cells := 0, slots := 0, locals := 240 } : Room) D A cs tt N ad g [.ref (cs (100 + q.2.2.2.1)), .int (zI (z))] (rI0 N ad fun r g' => (0 ≤ r ∧ r ≤ 127) ∧ q.2.2.2.2.getD ((z).toNat) 0 = zI r ∧ g = g') := by
  have hqL := SKL_len q hq
  refine z_of (by decide) (Nat.le_of_ble_eq_true rfl) ?_
  intro p e s m below meth c C hr hlk hnm
  refine z_lv (lv' := [(0, .ref (cs (100 + q.2.2.2.1))), (1, .int (zI (z)))]) [0, 1] rfl ?_
  refine z_aload_n C 0 dJ0_charAt_5068e_0 rfl ?_
  refine z_cVs (As := []) (rest := []) C hq (c_isLatin1 l D A cs tt N ad _ q hq) rfl mv_yJ0_isLatin1_aae02 q_771 hd_yJ0_isLatin1_aae02 (by decide) (Nat.le_of_ble_eq_true rfl) (by decide) dJ0_charAt_5068e_1 rfl (kI0 fun vy1 gvy1 hvy1 => ?_)
  obtain ⟨rfl, rfl⟩ := hvy1
  refine z_if_eq (tgt := 16) C dJ0_charAt_5068e_4 (by decide) (by omega) (fun h => absurd h (by omega)) (fun _ => ?_)
  refine z_aload_n C 0 dJ0_charAt_5068e_7 rfl ?_
  refine z_sval C hq q_1166 dJ0_charAt_5068e_8 ?_
  refine z_iload_n C 1 dJ0_charAt_5068e_11 rfl ?_
  refine z_cS (As := [.ref (cs (200 + q.2.2.2.1)), .int (zI (z))]) (rest := []) C (c_xL1 l D A cs tt N ad _ q hq (z) (by omega)) ms_yJ1_charAt_3b067 q_775 hd_yJ1_charAt_3b067 (by decide) (Nat.le_of_ble_eq_true rfl) (by decide) dJ0_charAt_5068e_12 rfl (kI0 fun vy2 gvy2 hvy2 => ?_)
  obtain ⟨hvy2, hkvy2, rfl⟩ := hvy2
  exact z_zret C hr hlk dJ0_charAt_5068e_15 (nc16 (by omega)) (by decide) (by decide) ⟨vy2, rfl, rfl, rfl, by omega, hkvy2, rfl⟩

set_option maxRecDepth 100000 in
set_option maxHeartbeats 4000000 in
theorem c_xIs (l : Launch) (D : va_G) (A : Nat → Prop) (cs : Nat → ClassId) (tt : Nat) (N : Nat) (ad : Nat → Nat) (g : Nat → va_E) (hN : 952 ≤ N) (pl tk td : Int) (tp T : Nat → Int) (hT : xT tp T) (n : Nat) (hn : n ≤ 900) (f : Nat) (hf : f ≤ n) (hg2 : g 2 = rdC ad (pl) (0) ((n : Int)) (tk_so T n f) ((f : Int)) (((tk_to T n f : Nat) : Int)) (tk) (td)) (hg1 : g 1 = bA cs 900 tp) (q : String × Nat × String × Nat × List Int32) (hq : q ∈ SKL) : zM l yX7_is cX7_is 3 (some .boolean) ({ frames := 5, cells := 0, slots := 0, locals := 300 } : Room) D A cs tt N ad g [.ref (ad 2), .ref (cs (100 + q.2.2.2.1))] (rI0 N ad fun r g' => ((r = 1 ∧ tk_is T n f (kb_ q) = true) ∨ (r = 0 ∧ tk_is T n f (kb_ q) = false)) ∧ g = g') := by
  have hay1 : zAt ad (2) (ad 2) := rfl
  have hay2 : zAt ad (1) (ad 1) := rfl
  have hTr : ∀ k, k < 900 → -128 ≤ tp k ∧ tp k ≤ 127 := fun k hk => (hT k hk).2.1
  have hsb := tk_so_b T n f
  have htb := tk_to_b (T := T) hf
  have hqL := SKL_len q hq
  have hkl := kb_len q
  refine z_of (by decide) (Nat.le_of_ble_eq_true rfl) ?_
  intro p e s m below meth c C hr hlk hnm
  refine z_lv (lv' := [(0, .ref (ad 2)), (1, .ref (cs (100 + q.2.2.2.1)))]) [0, 1] rfl ?_
  refine z_aload_n C 0 dX7_is_0 rfl ?_
  refine z_get (v := .int (zI (tk_so T n f))) C (lt_K hN (rfl : Nat.blt (2) 952 = true)) hay1 hg2 rfl inA_X7 4 (by decide) q_48 rfl rfl dX7_is_1 ?_
  refine z_iconst (z := 1) C dX7_is_4 rfl ?_
  refine z_icmp_ne (tgt := 24) C dX7_is_5 (by decide) (by omega) (by omega) (fun hby3 => ?_) (fun hby3 => ?_)
  · refine z_iconst (z := 0) C dX7_is_24 rfl ?_
    exact z_zret C hr hlk dX7_is_25 (by decide) (by decide) (by decide) ⟨0, rfl, rfl, rfl, Or.inr ⟨rfl, tk_is_n (fun h9 => by omega)⟩, rfl⟩
  · refine z_aload_n C 0 dX7_is_8 rfl ?_
    refine z_get (v := .int (zI (((tk_to T n f : Nat) : Int)))) C (lt_K hN (rfl : Nat.blt (2) 952 = true)) hay1 hg2 rfl inA_X7 6 (by decide) q_50 rfl rfl dX7_is_9 ?_
    refine z_aload_n C 0 dX7_is_12 rfl ?_
    refine z_get (v := .int (zI ((f : Int)))) C (lt_K hN (rfl : Nat.blt (2) 952 = true)) hay1 hg2 rfl inA_X7 5 (by decide) q_49 rfl rfl dX7_is_13 ?_
    refine z_isub C dX7_is_16 ?_
    refine z_aload_n C 1 dX7_is_17 rfl ?_
    refine z_cVs (As := []) (rest := [.int (zI ((((tk_to T n f : Nat) : Int)) - ((f : Int))))]) C hq (c_slen l D A cs tt N ad _ q hq) rfl mv_yJ0_length_8abf5 q_758 hd_yJ0_length_8abf5 (by decide) (Nat.le_of_ble_eq_true rfl) (by decide) dX7_is_18 rfl (kI0 fun vy4 gvy4 hvy4 => ?_)
    obtain ⟨rfl, rfl⟩ := hvy4
    refine z_icmp_eq (tgt := 26) C dX7_is_21 (by decide) (by omega) (by omega) (fun hby5 => ?_) (fun hby5 => ?_)
    · refine z_iconst (z := 0) C dX7_is_26 rfl ?_
      refine z_istore_n (lv' := [(2, .int (zI (0))), (0, .ref (ad 2)), (1, .ref (cs (100 + q.2.2.2.1)))]) C dX7_is_27 rfl (by decide) rfl ?_
      have lp : ∀ (n9 : Nat) (i : Int) (ni : Nat) (g1 : Nat → va_E), (6 - i).toNat = n9 → (g1 = g) → (i = (ni : Int)) → (∀ j, j < ni → T (f + j) = (kb_ q).getD j 0) → (0 ≤ i ∧ i ≤ (q.2.2.2.2.length : Int) ∧ tk_so T n f = 1 ∧ tk_to T n f = f + q.2.2.2.2.length) → zV p l e ({ frames := 5, cells := 0, slots := 0, locals := 300 } : Room) s m ([.ref (ad 2), .ref (cs (100 + q.2.2.2.1))] : List Value).toArray below meth c (MQ below (zPost D A (rI0 N ad fun r g' => ((r = 1 ∧ tk_is T n f (kb_ q) = true) ∨ (r = 0 ∧ tk_is T n f (kb_ q) = false)) ∧ g = g')) ([.ref (ad 2), .ref (cs (100 + q.2.2.2.1))] : List Value).toArray s ({ frames := 5, cells := 0, slots := 0, locals := 300 } : Room).cells ({ frames := 5, cells := 0, slots := 0, locals := 300 } : Room).slots A) D A 3 (N) ad g1 (0) (0) 28 [(2, .int (zI (i))), (0, .ref (ad 2)), (1, .ref (cs (100 + q.2.2.2.1)))] [] := by
        intro n9
        induction n9 using Nat.strongRecOn with
        | ind n9 ih =>
          intro i ni g1 hm9 hg1_ hi8 hall hi9
          subst hg1_
          refine z_iload_n C 0 dX7_is_28 rfl ?_
          refine z_aload_n C 2 dX7_is_29 rfl ?_
          refine z_cVs (As := []) (rest := [.int (zI (i))]) C hq (c_slen l D A cs tt N ad _ q hq) rfl mv_yJ0_length_8abf5 q_758 hd_yJ0_length_8abf5 (by decide) (Nat.le_of_ble_eq_true rfl) (by decide) dX7_is_30 rfl (kI0 fun vy6 gvy6 hvy6 => ?_)
          obtain ⟨rfl, rfl⟩ := hvy6
          refine z_icmp_ge (tgt := 63) C dX7_is_33 (by decide) (by omega) (by omega) (fun hby7 => ?_) (fun hby7 => ?_)
          · refine z_iconst (z := 1) C dX7_is_63 rfl ?_
            exact z_zret C hr hlk dX7_is_64 (by decide) (by decide) (by decide) ⟨1, rfl, rfl, rfl, Or.inl ⟨rfl, tk_is_c.mpr ⟨by omega, by omega, fun j hj => hall j (by omega)⟩⟩, rfl⟩
          · refine z_aload_n C 1 dX7_is_36 rfl ?_
            refine z_get (v := .ref (ad 1)) C (lt_K hN (rfl : Nat.blt (2) 952 = true)) hay1 hg2 rfl inA_X7 2 (by decide) q_46 rfl rfl dX7_is_37 ?_
            refine z_aload_n C 1 dX7_is_40 rfl ?_
            refine z_get (v := .int (zI ((f : Int)))) C (lt_K hN (rfl : Nat.blt (2) 952 = true)) hay1 hg2 rfl inA_X7 5 (by decide) q_49 rfl rfl dX7_is_41 ?_
            refine z_iload_n C 0 dX7_is_44 rfl ?_
            refine z_iadd C dX7_is_45 ?_
            refine z_bald C (lt_K hN (rfl : Nat.blt (1) 952 = true)) hay2 hg1 ((f + ni)) (by omega) (by omega) (by decide) dX7_is_46 ?_
            have hrfy8 := hTr ((f + ni)) (by omega)
            refine z_aload_n C 2 dX7_is_47 rfl ?_
            refine z_iload_n C 0 dX7_is_48 rfl ?_
            refine z_cVs (As := [.int (zI (i))]) (rest := [.int (zI (tp ((f + ni))))]) C hq (c_xChar l D A cs tt N ad _ q hq (i) (by omega)) rfl mv_yJ0_charAt_5068e q_767 hd_yJ0_charAt_5068e (by decide) (Nat.le_of_ble_eq_true rfl) (by decide) dX7_is_49 rfl (kI0 fun vy9 gvy9 hvy9 => ?_)
            obtain ⟨hvy9, hkvy9, rfl⟩ := hvy9
            refine z_icmp_eq (tgt := 57) C dX7_is_52 (by decide) (by omega) (by omega) (fun hby10 => ?_) (fun hby10 => ?_)
            · refine z_iinc (z := i + 1) (lv' := [(2, .int (zI (i + 1))), (0, .ref (ad 2)), (1, .ref (cs (100 + q.2.2.2.1)))]) (j := 0) C dX7_is_57 rfl rfl (by decide) rfl ?_
              refine z_goto (tgt := 28) C dX7_is_60 (by decide) ?_
              refine z_lv (lv' := [(2, .int (zI (i + 1))), (0, .ref (ad 2)), (1, .ref (cs (100 + q.2.2.2.1)))]) [0, 1, 2] rfl ?_
              have hkg := kb_get (q := q) (j := ni) (by omega) (by rw [show ni = (i).toNat by omega]; exact hkvy9) (by omega)
              have hrg := hT (f + ni) (by omega)
              exact ih _ (by omega) (i + 1) (ni + 1) _ rfl rfl (by omega) (fun j hj => by by_cases e9 : j = ni; (rw [e9, hkg]; omega); exact hall j (by omega)) (by omega)
            · refine z_iconst (z := 0) C dX7_is_55 rfl ?_
              have hkg := kb_get (q := q) (j := ni) (by omega) (by rw [show ni = (i).toNat by omega]; exact hkvy9) (by omega)
              have hrg := hT (f + ni) (by omega)
              exact z_zret C hr hlk dX7_is_56 (by decide) (by decide) (by decide) ⟨0, rfl, rfl, rfl, Or.inr ⟨rfl, tk_is_n (fun h9 => by have h8 := h9.2.2 ni (by omega); omega)⟩, rfl⟩
      refine z_lv (lv' := [(2, .int (zI (0))), (0, .ref (ad 2)), (1, .ref (cs (100 + q.2.2.2.1)))]) [0, 1, 2] rfl ?_
      exact lp _ (0) 0 _ rfl rfl (by omega) (fun j hj => absurd hj (Nat.not_lt_zero j)) (by omega)
    · refine z_iconst (z := 0) C dX7_is_24 rfl ?_
      exact z_zret C hr hlk dX7_is_25 (by decide) (by decide) (by decide) ⟨0, rfl, rfl, rfl, Or.inr ⟨rfl, tk_is_n (fun h9 => by omega)⟩, rfl⟩

set_option maxRecDepth 100000 in
set_option maxHeartbeats 4000000 in
theorem c_xFail (l : Launch) (D : va_G) (A : Nat → Prop) (cs : Nat → ClassId) (tt : Nat) (N : Nat) (ad : Nat → Nat) (g : Nat → va_E) (hN : 952 ≤ N) (pl en ty a9 be tk td : Int) (hg2 : g 2 = rdC ad (pl) (0) (en) (ty) (a9) (be) (tk) (td)) (z z1 : Int) : zM l yX7_fail cX7_fail 3 none ({ frames := 1, cells := 0, slots := 0, locals := 60 } : Room) D A cs tt N ad g [.ref (ad 2), .int (zI (z)), .int (zI (z1))] (rV0 N ad fun g' => g' 2 = rdC ad (z1) (z) (en) (ty) (a9) (be) (tk) (td) ∧ ∀ j, j ≠ 2 → g' j = g j) := by
  have hay1 : zAt ad (2) (ad 2) := rfl
  refine z_of (by decide) (Nat.le_of_ble_eq_true rfl) ?_
  intro p e s m below meth c C hr hlk hnm
  refine z_lv (lv' := [(0, .ref (ad 2)), (1, .int (zI (z))), (2, .int (zI (z1)))]) [0, 1, 2] rfl ?_
  refine z_aload_n C 0 dX7_fail_0 rfl ?_
  refine z_get (v := .int (zI (0))) C (lt_K hN (rfl : Nat.blt (2) 952 = true)) hay1 hg2 rfl inA_X7 1 (by decide) q_45 rfl rfl dX7_fail_1 ?_
  refine z_if_ne (tgt := 17) C dX7_fail_4 (by decide) (by omega) (fun h => absurd h (by omega)) (fun _ => ?_)
  refine z_aload_n C 0 dX7_fail_7 rfl ?_
  refine z_iload_n C 1 dX7_fail_8 rfl ?_
  refine z_put (fs' := [.int (zI (pl)), .int (zI (z)), .ref (ad 1), .int (zI (en)), .int (zI (ty)), .int (zI (a9)), .int (zI (be)), .int (zI (tk)), .int (zI (td))]) C (lt_K hN (rfl : Nat.blt (2) 952 = true)) hay1 hg2 tyX7 tyX7_ok nmX7 rfl inA_X7 1 (by decide) q_45 rfl rfl rfl rfl (Nat.le_of_ble_eq_true rfl) rfl dX7_fail_9 (fun gy2 egy3 => ?_)
  have hgy4 := up_s egy3
  refine z_aload_n C 0 dX7_fail_12 rfl ?_
  refine z_iload_n C 2 dX7_fail_13 rfl ?_
  refine z_put (fs' := [.int (zI (z1)), .int (zI (z)), .ref (ad 1), .int (zI (en)), .int (zI (ty)), .int (zI (a9)), .int (zI (be)), .int (zI (tk)), .int (zI (td))]) C (lt_K hN (rfl : Nat.blt (2) 952 = true)) hay1 hgy4 tyX7 tyX7_ok nmX7 rfl inA_X7 0 (by decide) q_43 rfl rfl rfl rfl (Nat.le_of_ble_eq_true rfl) rfl dX7_fail_14 (fun gy5 egy6 => ?_)
  have hgy7 := up_s egy6
  exact z_vret C hr hlk dX7_fail_17 (by decide) (by decide) ⟨rfl, rfl, rfl, hgy7, fun j j1 => by rw [egy6, va_up_ne _ _ (by omega)]; rw [egy3, va_up_ne _ _ (by omega)]⟩

set_option maxRecDepth 100000 in
set_option maxHeartbeats 4000000 in
theorem c_fFail (l : Launch) (D : va_G) (A : Nat → Prop) (cs : Nat → ClassId) (tt : Nat) (N : Nat) (ad : Nat → Nat) (g : Nat → va_E) (hN : 952 ≤ N) (pl co en ty a9 be tk td : Int) (hco : 1 ≤ co ∧ co ≤ 5) (hg2 : g 2 = rdC ad (pl) (co) (en) (ty) (a9) (be) (tk) (td)) (z z1 : Int) : zM l yX7_fail cX7_fail 3 none ({ frames := 1, cells := 0, slots := 0, locals := 60 } : Room) D A cs tt N ad g [.ref (ad 2), .int (zI (z)), .int (zI (z1))] (rV0 N ad fun g' => g = g') := by
  have hay1 : zAt ad (2) (ad 2) := rfl
  refine z_of (by decide) (Nat.le_of_ble_eq_true rfl) ?_
  intro p e s m below meth c C hr hlk hnm
  refine z_lv (lv' := [(0, .ref (ad 2)), (1, .int (zI (z))), (2, .int (zI (z1)))]) [0, 1, 2] rfl ?_
  refine z_aload_n C 0 dX7_fail_0 rfl ?_
  refine z_get (v := .int (zI (co))) C (lt_K hN (rfl : Nat.blt (2) 952 = true)) hay1 hg2 rfl inA_X7 1 (by decide) q_45 rfl rfl dX7_fail_1 ?_
  refine z_if_ne (tgt := 17) C dX7_fail_4 (by decide) (by omega) (fun _ => ?_) (fun h => absurd h (by omega))
  exact z_vret C hr hlk dX7_fail_17 (by decide) (by decide) ⟨rfl, rfl, rfl, rfl⟩

set_option maxRecDepth 100000 in
set_option maxHeartbeats 4000000 in
theorem c_fTake (l : Launch) (D : va_G) (A : Nat → Prop) (cs : Nat → ClassId) (tt : Nat) (N : Nat) (ad : Nat → Nat) (g : Nat → va_E) (hN : 952 ≤ N) (pl co en ty a9 be tk td : Int) (hco : 1 ≤ co ∧ co ≤ 5) (hg2 : g 2 = rdC ad (pl) (co) (en) (ty) (a9) (be) (tk) (td)) : zM l yX7_take cX7_take 1 none ({ frames := 3, cells := 0, slots := 0, locals := 180 } : Room) D A cs tt N ad g [.ref (ad 2)] (rV0 N ad fun g' => g = g') := by
  have hay1 : zAt ad (2) (ad 2) := rfl
  refine z_of (by decide) (Nat.le_of_ble_eq_true rfl) ?_
  intro p e s m below meth c C hr hlk hnm
  refine z_lv (lv' := [(0, .ref (ad 2))]) [0] rfl ?_
  refine z_aload_n C 0 dX7_take_0 rfl ?_
  refine z_get (v := .int (zI (co))) C (lt_K hN (rfl : Nat.blt (2) 952 = true)) hay1 hg2 rfl inA_X7 1 (by decide) q_45 rfl rfl dX7_take_1 ?_
  refine z_if_ne (tgt := 19) C dX7_take_4 (by decide) (by omega) (fun _ => ?_) (fun h => absurd h (by omega))
  exact z_vret C hr hlk dX7_take_19 (by decide) (by decide) ⟨rfl, rfl, rfl, rfl⟩

set_option maxRecDepth 100000 in
set_option maxHeartbeats 4000000 in
theorem c_xTake (l : Launch) (D : va_G) (A : Nat → Prop) (cs : Nat → ClassId) (tt : Nat) (N : Nat) (ad : Nat → Nat) (g : Nat → va_E) (hN : 952 ≤ N) (pl tk td : Int) (tp T : Nat → Int) (hT : xT tp T) (n : Nat) (hn : n ≤ 900) (f : Nat) (hf : f ≤ n) (hg2 : g 2 = rdC ad (pl) (0) ((n : Int)) (tk_so T n f) ((f : Int)) (((tk_to T n f : Nat) : Int)) (tk) (td)) (hg1 : g 1 = bA cs 900 tp) : zM l yX7_take cX7_take 1 none ({ frames := 3, cells := 0, slots := 0, locals := 180 } : Room) D A cs tt N ad g [.ref (ad 2)] (rV0 N ad fun g' => g' 2 = rdC ad (pl) (0) ((n : Int)) (tk_so T n (tk_nx T n f)) (((tk_nx T n f) : Int)) (((tk_to T n (tk_nx T n f) : Nat) : Int)) ((f : Int)) (td) ∧ ∀ j, j ≠ 2 → g' j = g j) := by
  have hay1 : zAt ad (2) (ad 2) := rfl
  have hay2 : zAt ad (1) (ad 1) := rfl
  have hTr : ∀ k, k < 900 → -128 ≤ tp k ∧ tp k ≤ 127 := fun k hk => (hT k hk).2.1
  have hsb := tk_so_b T n f
  have htb := tk_to_b (T := T) hf
  refine z_of (by decide) (Nat.le_of_ble_eq_true rfl) ?_
  intro p e s m below meth c C hr hlk hnm
  refine z_lv (lv' := [(0, .ref (ad 2))]) [0] rfl ?_
  refine z_aload_n C 0 dX7_take_0 rfl ?_
  refine z_get (v := .int (zI (0))) C (lt_K hN (rfl : Nat.blt (2) 952 = true)) hay1 hg2 rfl inA_X7 1 (by decide) q_45 rfl rfl dX7_take_1 ?_
  refine z_if_ne (tgt := 19) C dX7_take_4 (by decide) (by omega) (fun h => absurd h (by omega)) (fun _ => ?_)
  refine z_aload_n C 0 dX7_take_7 rfl ?_
  refine z_aload_n C 0 dX7_take_8 rfl ?_
  refine z_get (v := .int (zI ((f : Int)))) C (lt_K hN (rfl : Nat.blt (2) 952 = true)) hay1 hg2 rfl inA_X7 5 (by decide) q_49 rfl rfl dX7_take_9 ?_
  refine z_put (fs' := [.int (zI (pl)), .int (zI (0)), .ref (ad 1), .int (zI ((n : Int))), .int (zI (tk_so T n f)), .int (zI ((f : Int))), .int (zI (((tk_to T n f : Nat) : Int))), .int (zI ((f : Int))), .int (zI (td))]) C (lt_K hN (rfl : Nat.blt (2) 952 = true)) hay1 hg2 tyX7 tyX7_ok nmX7 rfl inA_X7 7 (by decide) q_51 rfl rfl rfl rfl (Nat.le_of_ble_eq_true rfl) rfl dX7_take_12 (fun gy3 egy4 => ?_)
  have hgy5 := up_s egy4
  refine z_aload_n C 0 dX7_take_15 rfl ?_
  have hgy6 := up_n egy4 hg1 (by decide)
  refine z_cV (As := []) (rest := []) (ci := 9) C (c_xPeek l D A cs tt N ad _ (by omega) _ _ _ _ _ _ tp T hT n hn (tk_to T n f) (by omega) hgy5 hgy6) (lt_K hN (rfl : Nat.blt (2) 952 = true)) hay1 hgy5 rfl rfl mv_yX7_peek q_742 hd_yX7_peek (by decide) (Nat.le_of_ble_eq_true rfl) (by decide) dX7_take_16 rfl (kV0 fun gvy7 hvy7 => ?_)
  obtain ⟨hkvy7, hfvy7⟩ := hvy7
  exact z_vret C hr hlk dX7_take_19 (by decide) (by decide) ⟨rfl, rfl, rfl, hkvy7, fun j j1 => by rw [hfvy7 _ (by omega)]; rw [egy4, va_up_ne _ _ (by omega)]⟩

set_option maxRecDepth 100000 in
set_option maxHeartbeats 4000000 in
theorem c_xClose (l : Launch) (D : va_G) (A : Nat → Prop) (cs : Nat → ClassId) (tt : Nat) (N : Nat) (ad : Nat → Nat) (g : Nat → va_E) (hN : 952 ≤ N) (pl tk td : Int) (tp T : Nat → Int) (hT : xT tp T) (n : Nat) (hn : n ≤ 900) (f : Nat) (hf : f ≤ n) (hg2 : g 2 = rdC ad (pl) (0) ((n : Int)) (tk_so T n f) ((f : Int)) (((tk_to T n f : Nat) : Int)) (tk) (td)) (hg1 : g 1 = bA cs 900 tp) : zM l yX7_close cX7_close 1 none ({ frames := 4, cells := 0, slots := 0, locals := 240 } : Room) D A cs tt N ad g [.ref (ad 2)] (rV0 N ad fun g' => ((tk_so T n f = 3 ∧ g' 2 = rdC ad (pl) (0) ((n : Int)) (tk_so T n (tk_nx T n f)) (((tk_nx T n f) : Int)) (((tk_to T n (tk_nx T n f) : Nat) : Int)) ((f : Int)) (td)) ∨ (tk_so T n f ≠ 3 ∧ g' 2 = rdC ad ((f : Int)) (1) ((n : Int)) (tk_so T n f) ((f : Int)) (((tk_to T n f : Nat) : Int)) (tk) (td))) ∧ ∀ j, j ≠ 2 → g' j = g j) := by
  have hay1 : zAt ad (2) (ad 2) := rfl
  have hay2 : zAt ad (1) (ad 1) := rfl
  have hTr : ∀ k, k < 900 → -128 ≤ tp k ∧ tp k ≤ 127 := fun k hk => (hT k hk).2.1
  have hsb := tk_so_b T n f
  have htb := tk_to_b (T := T) hf
  refine z_of (by decide) (Nat.le_of_ble_eq_true rfl) ?_
  intro p e s m below meth c C hr hlk hnm
  refine z_lv (lv' := [(0, .ref (ad 2))]) [0] rfl ?_
  refine z_aload_n C 0 dX7_close_0 rfl ?_
  refine z_get (v := .int (zI (tk_so T n f))) C (lt_K hN (rfl : Nat.blt (2) 952 = true)) hay1 hg2 rfl inA_X7 4 (by decide) q_48 rfl rfl dX7_close_1 ?_
  refine z_iconst (z := 3) C dX7_close_4 rfl ?_
  refine z_icmp_eq (tgt := 17) C dX7_close_5 (by decide) (by omega) (by omega) (fun hby3 => ?_) (fun hby3 => ?_)
  · refine z_aload_n C 0 dX7_close_17 rfl ?_
    refine z_cV (As := []) (rest := []) (ci := 9) C (c_xTake l D A cs tt N ad _ (by omega) _ _ _ tp T hT n hn f (by omega) hg2 hg1) (lt_K hN (rfl : Nat.blt (2) 952 = true)) hay1 hg2 rfl rfl mv_yX7_take q_813 hd_yX7_take (by decide) (Nat.le_of_ble_eq_true rfl) (by decide) dX7_close_18 rfl (kV0 fun gvy4 hvy4 => ?_)
    obtain ⟨hkvy4, hfvy4⟩ := hvy4
    have hnby5 := tk_nx_b (T := T) (n := n) (f := f) (by omega)
    have hsby6 := tk_so_b T n (tk_nx T n f)
    have htby7 := tk_to_b (T := T) (n := n) (f := (tk_nx T n f)) (by omega)
    exact z_vret C hr hlk dX7_close_21 (by decide) (by decide) ⟨rfl, rfl, rfl, Or.inl ⟨by omega, hkvy4⟩, fun j j1 => by rw [hfvy4 _ (by omega)]⟩
  · refine z_aload_n C 0 dX7_close_8 rfl ?_
    refine z_iconst (z := 1) C dX7_close_9 rfl ?_
    refine z_aload_n C 0 dX7_close_10 rfl ?_
    refine z_get (v := .int (zI ((f : Int)))) C (lt_K hN (rfl : Nat.blt (2) 952 = true)) hay1 hg2 rfl inA_X7 5 (by decide) q_49 rfl rfl dX7_close_11 ?_
    refine z_cV (As := [.int (zI (1)), .int (zI ((f : Int)))]) (rest := []) (ci := 9) C (c_xFail l D A cs tt N ad _ (by omega) _ _ _ _ _ _ _ hg2 (1) ((f : Int))) (lt_K hN (rfl : Nat.blt (2) 952 = true)) hay1 hg2 rfl rfl mv_yX7_fail q_809 hd_yX7_fail (by decide) (Nat.le_of_ble_eq_true rfl) (by decide) dX7_close_14 rfl (kV0 fun gvy8 hvy8 => ?_)
    obtain ⟨hkvy8, hfvy8⟩ := hvy8
    refine z_aload_n C 0 dX7_close_17 rfl ?_
    refine z_cV (As := []) (rest := []) (ci := 9) C (c_fTake l D A cs tt N ad _ (by omega) _ _ _ _ _ _ _ _ (by omega) hkvy8) (lt_K hN (rfl : Nat.blt (2) 952 = true)) hay1 hkvy8 rfl rfl mv_yX7_take q_813 hd_yX7_take (by decide) (Nat.le_of_ble_eq_true rfl) (by decide) dX7_close_18 rfl (kV0 fun gvy9 hvy9 => ?_)
    obtain rfl := hvy9
    exact z_vret C hr hlk dX7_close_21 (by decide) (by decide) ⟨rfl, rfl, rfl, Or.inr ⟨by omega, hkvy8⟩, fun j j1 => by rw [hfvy8 _ (by omega)]⟩

set_option maxRecDepth 100000 in
set_option maxHeartbeats 4000000 in
theorem c_fClose (l : Launch) (D : va_G) (A : Nat → Prop) (cs : Nat → ClassId) (tt : Nat) (N : Nat) (ad : Nat → Nat) (g : Nat → va_E) (hN : 952 ≤ N) (pl co en ty a9 be tk td : Int) (hco : 1 ≤ co ∧ co ≤ 5) (hty : 0 ≤ ty ∧ ty ≤ 5) (hg2 : g 2 = rdC ad (pl) (co) (en) (ty) (a9) (be) (tk) (td)) : zM l yX7_close cX7_close 1 none ({ frames := 4, cells := 0, slots := 0, locals := 240 } : Room) D A cs tt N ad g [.ref (ad 2)] (rV0 N ad fun g' => g = g') := by
  have hay1 : zAt ad (2) (ad 2) := rfl
  refine z_of (by decide) (Nat.le_of_ble_eq_true rfl) ?_
  intro p e s m below meth c C hr hlk hnm
  refine z_lv (lv' := [(0, .ref (ad 2))]) [0] rfl ?_
  refine z_aload_n C 0 dX7_close_0 rfl ?_
  refine z_get (v := .int (zI (ty))) C (lt_K hN (rfl : Nat.blt (2) 952 = true)) hay1 hg2 rfl inA_X7 4 (by decide) q_48 rfl rfl dX7_close_1 ?_
  refine z_iconst (z := 3) C dX7_close_4 rfl ?_
  refine z_icmp_eq (tgt := 17) C dX7_close_5 (by decide) (by omega) (by omega) (fun hby2 => ?_) (fun hby2 => ?_)
  · refine z_aload_n C 0 dX7_close_17 rfl ?_
    refine z_cV (As := []) (rest := []) (ci := 9) C (c_fTake l D A cs tt N ad _ (by omega) _ _ _ _ _ _ _ _ (by omega) hg2) (lt_K hN (rfl : Nat.blt (2) 952 = true)) hay1 hg2 rfl rfl mv_yX7_take q_813 hd_yX7_take (by decide) (Nat.le_of_ble_eq_true rfl) (by decide) dX7_close_18 rfl (kV0 fun gvy3 hvy3 => ?_)
    obtain rfl := hvy3
    exact z_vret C hr hlk dX7_close_21 (by decide) (by decide) ⟨rfl, rfl, rfl, rfl⟩
  · refine z_aload_n C 0 dX7_close_8 rfl ?_
    refine z_iconst (z := 1) C dX7_close_9 rfl ?_
    refine z_aload_n C 0 dX7_close_10 rfl ?_
    refine z_get (v := .int (zI (a9))) C (lt_K hN (rfl : Nat.blt (2) 952 = true)) hay1 hg2 rfl inA_X7 5 (by decide) q_49 rfl rfl dX7_close_11 ?_
    refine z_cV (As := [.int (zI (1)), .int (zI (a9))]) (rest := []) (ci := 9) C (c_fFail l D A cs tt N ad _ (by omega) _ _ _ _ _ _ _ _ (by omega) hg2 (1) (a9)) (lt_K hN (rfl : Nat.blt (2) 952 = true)) hay1 hg2 rfl rfl mv_yX7_fail q_809 hd_yX7_fail (by decide) (Nat.le_of_ble_eq_true rfl) (by decide) dX7_close_14 rfl (kV0 fun gvy4 hvy4 => ?_)
    obtain rfl := hvy4
    refine z_aload_n C 0 dX7_close_17 rfl ?_
    refine z_cV (As := []) (rest := []) (ci := 9) C (c_fTake l D A cs tt N ad _ (by omega) _ _ _ _ _ _ _ _ (by omega) hg2) (lt_K hN (rfl : Nat.blt (2) 952 = true)) hay1 hg2 rfl rfl mv_yX7_take q_813 hd_yX7_take (by decide) (Nat.le_of_ble_eq_true rfl) (by decide) dX7_close_18 rfl (kV0 fun gvy5 hvy5 => ?_)
    obtain rfl := hvy5
    exact z_vret C hr hlk dX7_close_21 (by decide) (by decide) ⟨rfl, rfl, rfl, rfl⟩

set_option maxRecDepth 100000 in
set_option maxHeartbeats 4000000 in
theorem c_xNumber (l : Launch) (D : va_G) (A : Nat → Prop) (cs : Nat → ClassId) (tt : Nat) (N : Nat) (ad : Nat → Nat) (g : Nat → va_E) (hN : 952 ≤ N) (pl tk td : Int) (tp T : Nat → Int) (hT : xT tp T) (n : Nat) (hn : n ≤ 900) (f : Nat) (hf : f ≤ n) (hg2 : g 2 = rdC ad (pl) (0) ((n : Int)) (tk_so T n f) ((f : Int)) (((tk_to T n f : Nat) : Int)) (tk) (td)) (hg1 : g 1 = bA cs 900 tp) (z : Int) (z1 : Int) (hz : 0 ≤ z ∧ z ≤ z1 ∧ z1 ≤ 9999) : zM l yX7_number cX7_number 5 (some .int) ({ frames := 5, cells := 0, slots := 0, locals := 300 } : Room) D A cs tt N ad g [.ref (ad 2), .int (zI (z)), .int (zI (z1))] (rI0 N ad fun r g' => ((tk_nu T n z z1 f = .ok (r, tk_nx T n f) ∧ (z ≤ r ∧ r ≤ z1) ∧ g' 2 = rdC ad (pl) (0) ((n : Int)) (tk_so T n (tk_nx T n f)) (((tk_nx T n f) : Int)) (((tk_to T n (tk_nx T n f) : Nat) : Int)) ((f : Int)) (td)) ∨ (∃ c9 : Int, (c9 = 1 ∨ c9 = 2) ∧ tk_nu T n z z1 f = .error (c9, f) ∧ r = 0 ∧ g' 2 = rdC ad ((f : Int)) (c9) ((n : Int)) (tk_so T n f) ((f : Int)) (((tk_to T n f : Nat) : Int)) (tk) (td))) ∧ ∀ j, j ≠ 2 → g' j = g j) := by
  have hay1 : zAt ad (2) (ad 2) := rfl
  have hay2 : zAt ad (1) (ad 1) := rfl
  have hTr : ∀ k, k < 900 → -128 ≤ tp k ∧ tp k ≤ 127 := fun k hk => (hT k hk).2.1
  have hsb := tk_so_b T n f
  have htb := tk_to_b (T := T) hf
  refine z_of (by decide) (Nat.le_of_ble_eq_true rfl) ?_
  intro p e s m below meth c C hr hlk hnm
  refine z_lv (lv' := [(0, .ref (ad 2)), (1, .int (zI (z))), (2, .int (zI (z1)))]) [0, 1, 2] rfl ?_
  refine z_aload_n C 0 dX7_number_0 rfl ?_
  refine z_get (v := .int (zI (tk_so T n f))) C (lt_K hN (rfl : Nat.blt (2) 952 = true)) hay1 hg2 rfl inA_X7 4 (by decide) q_48 rfl rfl dX7_number_1 ?_
  refine z_iconst (z := 2) C dX7_number_4 rfl ?_
  refine z_icmp_eq (tgt := 19) C dX7_number_5 (by decide) (by omega) (by omega) (fun hby3 => ?_) (fun hby3 => ?_)
  · refine z_iconst (z := 0) C dX7_number_19 rfl ?_
    refine z_istore_n (lv' := [(3, .int (zI (0))), (0, .ref (ad 2)), (1, .int (zI (z))), (2, .int (zI (z1)))]) C dX7_number_20 rfl (by decide) rfl ?_
    refine z_aload_n C 1 dX7_number_21 rfl ?_
    refine z_get (v := .int (zI ((f : Int)))) C (lt_K hN (rfl : Nat.blt (2) 952 = true)) hay1 hg2 rfl inA_X7 5 (by decide) q_49 rfl rfl dX7_number_22 ?_
    refine z_istore (lv' := [(4, .int (zI ((f : Int)))), (3, .int (zI (0))), (0, .ref (ad 2)), (1, .int (zI (z))), (2, .int (zI (z1)))]) C dX7_number_25 (by decide) rfl ?_
    have lp : ∀ (n9 : Nat) (i : Int) (va : Int) (ni : Nat) (g1 : Nat → va_E), (900 - i).toNat = n9 → (g1 = g) → (i = (ni : Int)) → (f ≤ ni ∧ ni ≤ tk_to T n f) → (va = tk_dv T f (ni - f)) → (0 ≤ va ∧ va ≤ 99999) → (tk_so T n f = 2) → (0 ≤ tk_dv T f (tk_to T n f - f) ∧ ∀ i, i ≤ tk_to T n f - f → tk_dv T f i ≤ tk_dv T f (tk_to T n f - f)) → zV p l e ({ frames := 5, cells := 0, slots := 0, locals := 300 } : Room) s m ([.ref (ad 2), .int (zI (z)), .int (zI (z1))] : List Value).toArray below meth c (MQ below (zPost D A (rI0 N ad fun r g' => ((tk_nu T n z z1 f = .ok (r, tk_nx T n f) ∧ (z ≤ r ∧ r ≤ z1) ∧ g' 2 = rdC ad (pl) (0) ((n : Int)) (tk_so T n (tk_nx T n f)) (((tk_nx T n f) : Int)) (((tk_to T n (tk_nx T n f) : Nat) : Int)) ((f : Int)) (td)) ∨ (∃ c9 : Int, (c9 = 1 ∨ c9 = 2) ∧ tk_nu T n z z1 f = .error (c9, f) ∧ r = 0 ∧ g' 2 = rdC ad ((f : Int)) (c9) ((n : Int)) (tk_so T n f) ((f : Int)) (((tk_to T n f : Nat) : Int)) (tk) (td))) ∧ ∀ j, j ≠ 2 → g' j = g j)) ([.ref (ad 2), .int (zI (z)), .int (zI (z1))] : List Value).toArray s ({ frames := 5, cells := 0, slots := 0, locals := 300 } : Room).cells ({ frames := 5, cells := 0, slots := 0, locals := 300 } : Room).slots A) D A 5 (N) ad g1 (0) (0) 27 [(4, .int (zI (i))), (3, .int (zI (va))), (0, .ref (ad 2)), (1, .int (zI (z))), (2, .int (zI (z1)))] [] := by
      intro n9
      induction n9 using Nat.strongRecOn with
      | ind n9 ih =>
        intro i va ni g1 hm9 hg1_ hi8 hi9 hv8 hv9 hso hdm
        subst hg1_
        refine z_iload C 0 dX7_number_27 rfl ?_
        refine z_aload_n C 2 dX7_number_29 rfl ?_
        refine z_get (v := .int (zI (((tk_to T n f : Nat) : Int)))) C (lt_K hN (rfl : Nat.blt (2) 952 = true)) hay1 hg2 rfl inA_X7 6 (by decide) q_50 rfl rfl dX7_number_30 ?_
        refine z_icmp_ge (tgt := 63) C dX7_number_33 (by decide) (by omega) (by omega) (fun hby4 => ?_) (fun hby4 => ?_)
        · refine z_aload_n C 2 dX7_number_63 rfl ?_
          refine z_get (v := .int (zI (((tk_to T n f : Nat) : Int)))) C (lt_K hN (rfl : Nat.blt (2) 952 = true)) hay1 hg2 rfl inA_X7 6 (by decide) q_50 rfl rfl dX7_number_64 ?_
          refine z_aload_n C 2 dX7_number_67 rfl ?_
          refine z_get (v := .int (zI ((f : Int)))) C (lt_K hN (rfl : Nat.blt (2) 952 = true)) hay1 hg2 rfl inA_X7 5 (by decide) q_49 rfl rfl dX7_number_68 ?_
          refine z_isub C dX7_number_71 ?_
          refine z_iconst (z := 4) C dX7_number_72 rfl ?_
          refine z_icmp_gt (tgt := 86) C dX7_number_73 (by decide) (by omega) (by omega) (fun hby5 => ?_) (fun hby5 => ?_)
          · refine z_aload_n C 2 dX7_number_86 rfl ?_
            refine z_iconst (z := 2) C dX7_number_87 rfl ?_
            refine z_aload_n C 2 dX7_number_88 rfl ?_
            refine z_get (v := .int (zI ((f : Int)))) C (lt_K hN (rfl : Nat.blt (2) 952 = true)) hay1 hg2 rfl inA_X7 5 (by decide) q_49 rfl rfl dX7_number_89 ?_
            refine z_cV (As := [.int (zI (2)), .int (zI ((f : Int)))]) (rest := []) (ci := 9) C (c_xFail l D A cs tt N ad _ (by omega) _ _ _ _ _ _ _ hg2 (2) ((f : Int))) (lt_K hN (rfl : Nat.blt (2) 952 = true)) hay1 hg2 rfl rfl mv_yX7_fail q_809 hd_yX7_fail (by decide) (Nat.le_of_ble_eq_true rfl) (by decide) dX7_number_92 rfl (kV0 fun gvy6 hvy6 => ?_)
            obtain ⟨hkvy6, hfvy6⟩ := hvy6
            refine z_iconst (z := 0) C dX7_number_95 rfl ?_
            have hvb : ¬ (z ≤ tk_va T n f ∧ tk_va T n f ≤ z1) := by
              unfold tk_va
              by_cases e4 : tk_to T n f - f ≤ 4
              · rw [if_pos e4]; have hmo := hdm.2 (ni - f) (by omega); rw [← hv8] at hmo
                by_cases e5 : ni = tk_to T n f
                · rw [← e5, ← hv8]; omega
                · omega
              · rw [if_neg e4]; omega
            exact z_iret C hr hlk dX7_number_96 (by decide) (by decide) ⟨0, rfl, rfl, rfl, Or.inr ⟨2, Or.inr rfl, by unfold tk_nu; rw [if_neg (by omega), if_pos hvb], rfl, hkvy6⟩, fun j j1 => by rw [hfvy6 _ (by omega)]⟩
          · refine z_iload_n C 1 dX7_number_76 rfl ?_
            refine z_iload_n C 3 dX7_number_77 rfl ?_
            refine z_icmp_lt (tgt := 86) C dX7_number_78 (by decide) (by omega) (by omega) (fun hby7 => ?_) (fun hby7 => ?_)
            · refine z_aload_n C 2 dX7_number_86 rfl ?_
              refine z_iconst (z := 2) C dX7_number_87 rfl ?_
              refine z_aload_n C 2 dX7_number_88 rfl ?_
              refine z_get (v := .int (zI ((f : Int)))) C (lt_K hN (rfl : Nat.blt (2) 952 = true)) hay1 hg2 rfl inA_X7 5 (by decide) q_49 rfl rfl dX7_number_89 ?_
              refine z_cV (As := [.int (zI (2)), .int (zI ((f : Int)))]) (rest := []) (ci := 9) C (c_xFail l D A cs tt N ad _ (by omega) _ _ _ _ _ _ _ hg2 (2) ((f : Int))) (lt_K hN (rfl : Nat.blt (2) 952 = true)) hay1 hg2 rfl rfl mv_yX7_fail q_809 hd_yX7_fail (by decide) (Nat.le_of_ble_eq_true rfl) (by decide) dX7_number_92 rfl (kV0 fun gvy8 hvy8 => ?_)
              obtain ⟨hkvy8, hfvy8⟩ := hvy8
              refine z_iconst (z := 0) C dX7_number_95 rfl ?_
              have hvb : ¬ (z ≤ tk_va T n f ∧ tk_va T n f ≤ z1) := by
                unfold tk_va
                by_cases e4 : tk_to T n f - f ≤ 4
                · rw [if_pos e4]; have hmo := hdm.2 (ni - f) (by omega); rw [← hv8] at hmo
                  by_cases e5 : ni = tk_to T n f
                  · rw [← e5, ← hv8]; omega
                  · omega
                · rw [if_neg e4]; omega
              exact z_iret C hr hlk dX7_number_96 (by decide) (by decide) ⟨0, rfl, rfl, rfl, Or.inr ⟨2, Or.inr rfl, by unfold tk_nu; rw [if_neg (by omega), if_pos hvb], rfl, hkvy8⟩, fun j j1 => by rw [hfvy8 _ (by omega)]⟩
            · refine z_iload_n C 1 dX7_number_81 rfl ?_
              refine z_iload_n C 4 dX7_number_82 rfl ?_
              refine z_icmp_le (tgt := 97) C dX7_number_83 (by decide) (by omega) (by omega) (fun hby9 => ?_) (fun hby9 => ?_)
              · refine z_aload_n C 2 dX7_number_97 rfl ?_
                refine z_cV (As := []) (rest := []) (ci := 9) C (c_xTake l D A cs tt N ad _ (by omega) _ _ _ tp T hT n hn f (by omega) hg2 hg1) (lt_K hN (rfl : Nat.blt (2) 952 = true)) hay1 hg2 rfl rfl mv_yX7_take q_813 hd_yX7_take (by decide) (Nat.le_of_ble_eq_true rfl) (by decide) dX7_number_98 rfl (kV0 fun gvy10 hvy10 => ?_)
                obtain ⟨hkvy10, hfvy10⟩ := hvy10
                have hnby11 := tk_nx_b (T := T) (n := n) (f := f) (by omega)
                have hsby12 := tk_so_b T n (tk_nx T n f)
                have htby13 := tk_to_b (T := T) (n := n) (f := (tk_nx T n f)) (by omega)
                refine z_iload_n C 1 dX7_number_101 rfl ?_
                have hva : tk_va T n f = va := by unfold tk_va; rw [if_pos (by omega), hv8, show ni - f = tk_to T n f - f by omega]
                have hnu : tk_nu T n z z1 f = .ok (va, tk_nx T n f) := by unfold tk_nu; rw [if_neg (by omega), if_neg (by omega), hva]
                exact z_iret C hr hlk dX7_number_102 (by decide) (by decide) ⟨va, rfl, rfl, rfl, Or.inl ⟨hnu, by omega, hkvy10⟩, fun j j1 => by rw [hfvy10 _ (by omega)]⟩
              · refine z_aload_n C 2 dX7_number_86 rfl ?_
                refine z_iconst (z := 2) C dX7_number_87 rfl ?_
                refine z_aload_n C 2 dX7_number_88 rfl ?_
                refine z_get (v := .int (zI ((f : Int)))) C (lt_K hN (rfl : Nat.blt (2) 952 = true)) hay1 hg2 rfl inA_X7 5 (by decide) q_49 rfl rfl dX7_number_89 ?_
                refine z_cV (As := [.int (zI (2)), .int (zI ((f : Int)))]) (rest := []) (ci := 9) C (c_xFail l D A cs tt N ad _ (by omega) _ _ _ _ _ _ _ hg2 (2) ((f : Int))) (lt_K hN (rfl : Nat.blt (2) 952 = true)) hay1 hg2 rfl rfl mv_yX7_fail q_809 hd_yX7_fail (by decide) (Nat.le_of_ble_eq_true rfl) (by decide) dX7_number_92 rfl (kV0 fun gvy14 hvy14 => ?_)
                obtain ⟨hkvy14, hfvy14⟩ := hvy14
                refine z_iconst (z := 0) C dX7_number_95 rfl ?_
                have hvb : ¬ (z ≤ tk_va T n f ∧ tk_va T n f ≤ z1) := by
                  unfold tk_va
                  by_cases e4 : tk_to T n f - f ≤ 4
                  · rw [if_pos e4]; have hmo := hdm.2 (ni - f) (by omega); rw [← hv8] at hmo
                    by_cases e5 : ni = tk_to T n f
                    · rw [← e5, ← hv8]; omega
                    · omega
                  · rw [if_neg e4]; omega
                exact z_iret C hr hlk dX7_number_96 (by decide) (by decide) ⟨0, rfl, rfl, rfl, Or.inr ⟨2, Or.inr rfl, by unfold tk_nu; rw [if_neg (by omega), if_pos hvb], rfl, hkvy14⟩, fun j j1 => by rw [hfvy14 _ (by omega)]⟩
        · refine z_iload_n C 1 dX7_number_36 rfl ?_
          refine z_iload_n C 4 dX7_number_37 rfl ?_
          refine z_icmp_gt (tgt := 63) C dX7_number_38 (by decide) (by omega) (by omega) (fun hby15 => ?_) (fun hby15 => ?_)
          · refine z_aload_n C 2 dX7_number_63 rfl ?_
            refine z_get (v := .int (zI (((tk_to T n f : Nat) : Int)))) C (lt_K hN (rfl : Nat.blt (2) 952 = true)) hay1 hg2 rfl inA_X7 6 (by decide) q_50 rfl rfl dX7_number_64 ?_
            refine z_aload_n C 2 dX7_number_67 rfl ?_
            refine z_get (v := .int (zI ((f : Int)))) C (lt_K hN (rfl : Nat.blt (2) 952 = true)) hay1 hg2 rfl inA_X7 5 (by decide) q_49 rfl rfl dX7_number_68 ?_
            refine z_isub C dX7_number_71 ?_
            refine z_iconst (z := 4) C dX7_number_72 rfl ?_
            refine z_icmp_gt (tgt := 86) C dX7_number_73 (by decide) (by omega) (by omega) (fun hby16 => ?_) (fun hby16 => ?_)
            · refine z_aload_n C 2 dX7_number_86 rfl ?_
              refine z_iconst (z := 2) C dX7_number_87 rfl ?_
              refine z_aload_n C 2 dX7_number_88 rfl ?_
              refine z_get (v := .int (zI ((f : Int)))) C (lt_K hN (rfl : Nat.blt (2) 952 = true)) hay1 hg2 rfl inA_X7 5 (by decide) q_49 rfl rfl dX7_number_89 ?_
              refine z_cV (As := [.int (zI (2)), .int (zI ((f : Int)))]) (rest := []) (ci := 9) C (c_xFail l D A cs tt N ad _ (by omega) _ _ _ _ _ _ _ hg2 (2) ((f : Int))) (lt_K hN (rfl : Nat.blt (2) 952 = true)) hay1 hg2 rfl rfl mv_yX7_fail q_809 hd_yX7_fail (by decide) (Nat.le_of_ble_eq_true rfl) (by decide) dX7_number_92 rfl (kV0 fun gvy17 hvy17 => ?_)
              obtain ⟨hkvy17, hfvy17⟩ := hvy17
              refine z_iconst (z := 0) C dX7_number_95 rfl ?_
              have hvb : ¬ (z ≤ tk_va T n f ∧ tk_va T n f ≤ z1) := by
                unfold tk_va
                by_cases e4 : tk_to T n f - f ≤ 4
                · rw [if_pos e4]; have hmo := hdm.2 (ni - f) (by omega); rw [← hv8] at hmo
                  by_cases e5 : ni = tk_to T n f
                  · rw [← e5, ← hv8]; omega
                  · omega
                · rw [if_neg e4]; omega
              exact z_iret C hr hlk dX7_number_96 (by decide) (by decide) ⟨0, rfl, rfl, rfl, Or.inr ⟨2, Or.inr rfl, by unfold tk_nu; rw [if_neg (by omega), if_pos hvb], rfl, hkvy17⟩, fun j j1 => by rw [hfvy17 _ (by omega)]⟩
            · refine z_iload_n C 1 dX7_number_76 rfl ?_
              refine z_iload_n C 3 dX7_number_77 rfl ?_
              refine z_icmp_lt (tgt := 86) C dX7_number_78 (by decide) (by omega) (by omega) (fun hby18 => ?_) (fun hby18 => ?_)
              · refine z_aload_n C 2 dX7_number_86 rfl ?_
                refine z_iconst (z := 2) C dX7_number_87 rfl ?_
                refine z_aload_n C 2 dX7_number_88 rfl ?_
                refine z_get (v := .int (zI ((f : Int)))) C (lt_K hN (rfl : Nat.blt (2) 952 = true)) hay1 hg2 rfl inA_X7 5 (by decide) q_49 rfl rfl dX7_number_89 ?_
                refine z_cV (As := [.int (zI (2)), .int (zI ((f : Int)))]) (rest := []) (ci := 9) C (c_xFail l D A cs tt N ad _ (by omega) _ _ _ _ _ _ _ hg2 (2) ((f : Int))) (lt_K hN (rfl : Nat.blt (2) 952 = true)) hay1 hg2 rfl rfl mv_yX7_fail q_809 hd_yX7_fail (by decide) (Nat.le_of_ble_eq_true rfl) (by decide) dX7_number_92 rfl (kV0 fun gvy19 hvy19 => ?_)
                obtain ⟨hkvy19, hfvy19⟩ := hvy19
                refine z_iconst (z := 0) C dX7_number_95 rfl ?_
                have hvb : ¬ (z ≤ tk_va T n f ∧ tk_va T n f ≤ z1) := by
                  unfold tk_va
                  by_cases e4 : tk_to T n f - f ≤ 4
                  · rw [if_pos e4]; have hmo := hdm.2 (ni - f) (by omega); rw [← hv8] at hmo
                    by_cases e5 : ni = tk_to T n f
                    · rw [← e5, ← hv8]; omega
                    · omega
                  · rw [if_neg e4]; omega
                exact z_iret C hr hlk dX7_number_96 (by decide) (by decide) ⟨0, rfl, rfl, rfl, Or.inr ⟨2, Or.inr rfl, by unfold tk_nu; rw [if_neg (by omega), if_pos hvb], rfl, hkvy19⟩, fun j j1 => by rw [hfvy19 _ (by omega)]⟩
              · refine z_iload_n C 1 dX7_number_81 rfl ?_
                refine z_iload_n C 4 dX7_number_82 rfl ?_
                refine z_icmp_le (tgt := 97) C dX7_number_83 (by decide) (by omega) (by omega) (fun hby20 => ?_) (fun hby20 => ?_)
                · refine z_aload_n C 2 dX7_number_97 rfl ?_
                  refine z_cV (As := []) (rest := []) (ci := 9) C (c_xTake l D A cs tt N ad _ (by omega) _ _ _ tp T hT n hn f (by omega) hg2 hg1) (lt_K hN (rfl : Nat.blt (2) 952 = true)) hay1 hg2 rfl rfl mv_yX7_take q_813 hd_yX7_take (by decide) (Nat.le_of_ble_eq_true rfl) (by decide) dX7_number_98 rfl (kV0 fun gvy21 hvy21 => ?_)
                  obtain ⟨hkvy21, hfvy21⟩ := hvy21
                  have hnby22 := tk_nx_b (T := T) (n := n) (f := f) (by omega)
                  have hsby23 := tk_so_b T n (tk_nx T n f)
                  have htby24 := tk_to_b (T := T) (n := n) (f := (tk_nx T n f)) (by omega)
                  refine z_iload_n C 1 dX7_number_101 rfl ?_
                  have hva : tk_va T n f = va := by unfold tk_va; rw [if_pos (by omega), hv8, show ni - f = tk_to T n f - f by omega]
                  have hnu : tk_nu T n z z1 f = .ok (va, tk_nx T n f) := by unfold tk_nu; rw [if_neg (by omega), if_neg (by omega), hva]
                  exact z_iret C hr hlk dX7_number_102 (by decide) (by decide) ⟨va, rfl, rfl, rfl, Or.inl ⟨hnu, by omega, hkvy21⟩, fun j j1 => by rw [hfvy21 _ (by omega)]⟩
                · refine z_aload_n C 2 dX7_number_86 rfl ?_
                  refine z_iconst (z := 2) C dX7_number_87 rfl ?_
                  refine z_aload_n C 2 dX7_number_88 rfl ?_
                  refine z_get (v := .int (zI ((f : Int)))) C (lt_K hN (rfl : Nat.blt (2) 952 = true)) hay1 hg2 rfl inA_X7 5 (by decide) q_49 rfl rfl dX7_number_89 ?_
                  refine z_cV (As := [.int (zI (2)), .int (zI ((f : Int)))]) (rest := []) (ci := 9) C (c_xFail l D A cs tt N ad _ (by omega) _ _ _ _ _ _ _ hg2 (2) ((f : Int))) (lt_K hN (rfl : Nat.blt (2) 952 = true)) hay1 hg2 rfl rfl mv_yX7_fail q_809 hd_yX7_fail (by decide) (Nat.le_of_ble_eq_true rfl) (by decide) dX7_number_92 rfl (kV0 fun gvy25 hvy25 => ?_)
                  obtain ⟨hkvy25, hfvy25⟩ := hvy25
                  refine z_iconst (z := 0) C dX7_number_95 rfl ?_
                  have hvb : ¬ (z ≤ tk_va T n f ∧ tk_va T n f ≤ z1) := by
                    unfold tk_va
                    by_cases e4 : tk_to T n f - f ≤ 4
                    · rw [if_pos e4]; have hmo := hdm.2 (ni - f) (by omega); rw [← hv8] at hmo
                      by_cases e5 : ni = tk_to T n f
                      · rw [← e5, ← hv8]; omega
                      · omega
                    · rw [if_neg e4]; omega
                  exact z_iret C hr hlk dX7_number_96 (by decide) (by decide) ⟨0, rfl, rfl, rfl, Or.inr ⟨2, Or.inr rfl, by unfold tk_nu; rw [if_neg (by omega), if_pos hvb], rfl, hkvy25⟩, fun j j1 => by rw [hfvy25 _ (by omega)]⟩
          · refine z_bipush (z := 10) C dX7_number_41 (by decide) ?_
            refine z_iload_n C 1 dX7_number_43 rfl ?_
            refine z_imul C dX7_number_44 ?_
            refine z_aload_n C 2 dX7_number_45 rfl ?_
            refine z_get (v := .ref (ad 1)) C (lt_K hN (rfl : Nat.blt (2) 952 = true)) hay1 hg2 rfl inA_X7 2 (by decide) q_46 rfl rfl dX7_number_46 ?_
            refine z_iload C 0 dX7_number_49 rfl ?_
            refine z_bald C (lt_K hN (rfl : Nat.blt (1) 952 = true)) hay2 hg1 (ni) (by omega) (by omega) (by decide) dX7_number_51 ?_
            have hrfy26 := hTr (ni) (by omega)
            refine z_iadd C dX7_number_52 ?_
            refine z_bipush (z := 48) C dX7_number_53 (by decide) ?_
            refine z_isub C dX7_number_55 ?_
            refine z_istore_n (lv' := [(3, .int (zI (((10 * va) + (tp (ni))) - 48))), (4, .int (zI (i))), (0, .ref (ad 2)), (1, .int (zI (z))), (2, .int (zI (z1)))]) C dX7_number_56 rfl (by decide) rfl ?_
            refine z_iinc (z := i + 1) (lv' := [(4, .int (zI (i + 1))), (3, .int (zI (((10 * va) + (tp (ni))) - 48))), (0, .ref (ad 2)), (1, .int (zI (z))), (2, .int (zI (z1)))]) (j := 1) C dX7_number_57 rfl rfl (by decide) rfl ?_
            refine z_goto (tgt := 27) C dX7_number_60 (by decide) ?_
            refine z_lv (lv' := [(4, .int (zI (i + 1))), (3, .int (zI (((10 * va) + (tp (ni))) - 48))), (0, .ref (ad 2)), (1, .int (zI (z))), (2, .int (zI (z1)))]) [0, 1, 2, 3, 4] rfl ?_
            have hdg := tk_dig hso (j := ni) (by omega) (by omega)
            have hrg := hT ni (by omega)
            exact ih _ (by omega) (i + 1) (((10 * va) + (tp (ni))) - 48) (ni + 1) _ rfl rfl (by omega) (by omega) (by rw [show ni + 1 - f = (ni - f) + 1 by omega]; show _ = 10 * tk_dv T f (ni - f) + T (f + (ni - f)) - 48; rw [← hv8, show f + (ni - f) = ni by omega]; omega) (by omega) hso hdm
    refine z_lv (lv' := [(4, .int (zI ((f : Int)))), (3, .int (zI (0))), (0, .ref (ad 2)), (1, .int (zI (z))), (2, .int (zI (z1)))]) [0, 1, 2, 3, 4] rfl ?_
    have hso : tk_so T n f = 2 := by omega
    have hdm := tk_dv_m (T := T) (f := f) (m := tk_to T n f - f) (fun j a b => tk_dig hso a (by omega)) (tk_to T n f - f) (Nat.le_refl _)
    exact lp _ ((f : Int)) (0) f _ rfl rfl (by omega) (by omega) (by rw [show f - f = 0 by omega]; rfl) (by omega) hso hdm
  · refine z_aload_n C 0 dX7_number_8 rfl ?_
    refine z_iconst (z := 1) C dX7_number_9 rfl ?_
    refine z_aload_n C 0 dX7_number_10 rfl ?_
    refine z_get (v := .int (zI ((f : Int)))) C (lt_K hN (rfl : Nat.blt (2) 952 = true)) hay1 hg2 rfl inA_X7 5 (by decide) q_49 rfl rfl dX7_number_11 ?_
    refine z_cV (As := [.int (zI (1)), .int (zI ((f : Int)))]) (rest := []) (ci := 9) C (c_xFail l D A cs tt N ad _ (by omega) _ _ _ _ _ _ _ hg2 (1) ((f : Int))) (lt_K hN (rfl : Nat.blt (2) 952 = true)) hay1 hg2 rfl rfl mv_yX7_fail q_809 hd_yX7_fail (by decide) (Nat.le_of_ble_eq_true rfl) (by decide) dX7_number_14 rfl (kV0 fun gvy27 hvy27 => ?_)
    obtain ⟨hkvy27, hfvy27⟩ := hvy27
    refine z_iconst (z := 0) C dX7_number_17 rfl ?_
    exact z_iret C hr hlk dX7_number_18 (by decide) (by decide) ⟨0, rfl, rfl, rfl, Or.inr ⟨1, Or.inl rfl, by unfold tk_nu; rw [if_pos (by omega)], rfl, hkvy27⟩, fun j j1 => by rw [hfvy27 _ (by omega)]⟩
end
section
-- 70n7.xclause.lean.txt
theorem kbw_0 : kb_ (("SnowRecorder$TextReader", 61, "slope", 0, [115, 108, 111, 112, 101]) : (String × Nat × String × Nat × List Int32)) = tk_kw 0 := by decide +kernel
theorem kbw_1 : kb_ (("SnowRecorder$TextReader", 71, "layer", 1, [108, 97, 121, 101, 114]) : (String × Nat × String × Nat × List Int32)) = tk_kw 1 := by decide +kernel
theorem kbw_2 : kb_ (("SnowRecorder", 495, "powder", 2, [112, 111, 119, 100, 101, 114]) : (String × Nat × String × Nat × List Int32)) = tk_kw 9 := by decide +kernel
theorem kbw_3 : kb_ (("SnowRecorder", 497, "grains", 3, [103, 114, 97, 105, 110, 115]) : (String × Nat × String × Nat × List Int32)) = tk_kw 10 := by decide +kernel
theorem kbw_4 : kb_ (("SnowRecorder", 499, "facets", 4, [102, 97, 99, 101, 116, 115]) : (String × Nat × String × Nat × List Int32)) = tk_kw 11 := by decide +kernel
theorem kbw_5 : kb_ (("SnowRecorder", 501, "crust", 5, [99, 114, 117, 115, 116]) : (String × Nat × String × Nat × List Int32)) = tk_kw 12 := by decide +kernel
theorem kbw_6 : kb_ (("SnowRecorder", 503, "hoar", 6, [104, 111, 97, 114]) : (String × Nat × String × Nat × List Int32)) = tk_kw 5 := by decide +kernel
theorem kbw_7 : kb_ (("SnowRecorder$TextReader", 76, "hour", 7, [104, 111, 117, 114]) : (String × Nat × String × Nat × List Int32)) = tk_kw 2 := by decide +kernel
theorem kbw_8 : kb_ (("SnowRecorder$TextReader", 149, "snow", 8, [115, 110, 111, 119]) : (String × Nat × String × Nat × List Int32)) = tk_kw 3 := by decide +kernel
theorem kbw_9 : kb_ (("SnowRecorder$TextReader", 151, "rain", 9, [114, 97, 105, 110]) : (String × Nat × String × Nat × List Int32)) = tk_kw 4 := by decide +kernel
theorem kbw_10 : kb_ (("SnowRecorder$TextReader", 153, "hoar", 10, [104, 111, 97, 114]) : (String × Nat × String × Nat × List Int32)) = tk_kw 5 := by decide +kernel
theorem kbw_11 : kb_ (("SnowRecorder$TextReader", 81, "strong", 11, [115, 116, 114, 111, 110, 103]) : (String × Nat × String × Nat × List Int32)) = tk_kw 6 := by decide +kernel
theorem kbw_12 : kb_ (("SnowRecorder$TextReader", 87, "holds", 12, [104, 111, 108, 100, 115]) : (String × Nat × String × Nat × List Int32)) = tk_kw 7 := by decide +kernel
theorem kbw_13 : kb_ (("SnowRecorder$TextReader", 89, "stiff", 13, [115, 116, 105, 102, 102]) : (String × Nat × String × Nat × List Int32)) = tk_kw 8 := by decide +kernel
theorem is_w {T : Nat → Int} {n f i : Nat} {v : List Int} {r : Int} (hk : v = tk_kw i) (hi : i < 13) (h : (r = 1 ∧ tk_is T n f v = true) ∨ (r = 0 ∧ tk_is T n f v = false)) : (r = 1 ∧ tk_w T n f = (i : Int)) ∨ (r = 0 ∧ tk_w T n f ≠ (i : Int)) := by
  subst hk
  rcases h with ⟨e, h⟩ | ⟨e, h⟩
  · exact Or.inl ⟨e, (tk_w_is i hi).mp h⟩
  · exact Or.inr ⟨e, fun e9 => by rw [(tk_w_is i hi).mpr e9] at h; cases h⟩
theorem is_k {T : Nat → Int} {n f : Nat} {v : List Int} {r i : Int} (hi : 0 ≤ i ∧ i ≤ 4) (hk : v = tk_kw (if i = 4 then 5 else 9 + i.toNat)) (h : (r = 1 ∧ tk_is T n f v = true) ∨ (r = 0 ∧ tk_is T n f v = false)) : (r = 1 ∧ ((i = 4 ∧ tk_w T n f = 5) ∨ (i ≠ 4 ∧ tk_w T n f = 9 + i))) ∨ (r = 0 ∧ ((i = 4 ∧ tk_w T n f ≠ 5) ∨ (i ≠ 4 ∧ tk_w T n f ≠ 9 + i))) := by
  by_cases e : i = 4
  · rw [if_pos e] at hk
    have h2 := is_w hk (by decide) h
    omega
  · rw [if_neg e] at hk
    have h2 := is_w hk (by omega) h
    omega
theorem tk_w_b (T : Nat → Int) (n f : Nat) : -1 ≤ tk_w T n f ∧ tk_w T n f ≤ 12 := by
  unfold tk_w
  by_cases e0 : tk_is T n f (tk_kw 0) = true
  · rw [if_pos e0]; decide
  by_cases e1 : tk_is T n f (tk_kw 1) = true
  · rw [if_neg e0, if_pos e1]; decide
  by_cases e2 : tk_is T n f (tk_kw 2) = true
  · rw [if_neg e0, if_neg e1, if_pos e2]; decide
  by_cases e3 : tk_is T n f (tk_kw 3) = true
  · rw [if_neg e0, if_neg e1, if_neg e2, if_pos e3]; decide
  by_cases e4 : tk_is T n f (tk_kw 4) = true
  · rw [if_neg e0, if_neg e1, if_neg e2, if_neg e3, if_pos e4]; decide
  by_cases e5 : tk_is T n f (tk_kw 5) = true
  · rw [if_neg e0, if_neg e1, if_neg e2, if_neg e3, if_neg e4, if_pos e5]; decide
  by_cases e6 : tk_is T n f (tk_kw 6) = true
  · rw [if_neg e0, if_neg e1, if_neg e2, if_neg e3, if_neg e4, if_neg e5, if_pos e6]; decide
  by_cases e7 : tk_is T n f (tk_kw 7) = true
  · rw [if_neg e0, if_neg e1, if_neg e2, if_neg e3, if_neg e4, if_neg e5, if_neg e6, if_pos e7]; decide
  by_cases e8 : tk_is T n f (tk_kw 8) = true
  · rw [if_neg e0, if_neg e1, if_neg e2, if_neg e3, if_neg e4, if_neg e5, if_neg e6, if_neg e7, if_pos e8]; decide
  by_cases e9 : tk_is T n f (tk_kw 9) = true
  · rw [if_neg e0, if_neg e1, if_neg e2, if_neg e3, if_neg e4, if_neg e5, if_neg e6, if_neg e7, if_neg e8, if_pos e9]; decide
  by_cases e10 : tk_is T n f (tk_kw 10) = true
  · rw [if_neg e0, if_neg e1, if_neg e2, if_neg e3, if_neg e4, if_neg e5, if_neg e6, if_neg e7, if_neg e8, if_neg e9, if_pos e10]; decide
  by_cases e11 : tk_is T n f (tk_kw 11) = true
  · rw [if_neg e0, if_neg e1, if_neg e2, if_neg e3, if_neg e4, if_neg e5, if_neg e6, if_neg e7, if_neg e8, if_neg e9, if_neg e10, if_pos e11]; decide
  by_cases e12 : tk_is T n f (tk_kw 12) = true
  · rw [if_neg e0, if_neg e1, if_neg e2, if_neg e3, if_neg e4, if_neg e5, if_neg e6, if_neg e7, if_neg e8, if_neg e9, if_neg e10, if_neg e11, if_pos e12]; decide
  rw [if_neg e0, if_neg e1, if_neg e2, if_neg e3, if_neg e4, if_neg e5, if_neg e6, if_neg e7, if_neg e8, if_neg e9, if_neg e10, if_neg e11, if_neg e12]; decide
theorem tk_kd_b (T : Nat → Int) (n f : Nat) : -1 ≤ tk_kd T n f ∧ tk_kd T n f ≤ 4 := by
  have h := tk_w_b T n f
  unfold tk_kd
  split
  · omega
  · split <;> omega
/-- the reader has failed: its code c, its place q -/
abbrev xFl (cs : Nat → ClassId) (ad : Nat → Nat) (g : Nat → va_E) (c q : Int) (tp : Nat → Int) : Prop := (1 ≤ c ∧ c ≤ 5) ∧ ∃ (en ty a9 be tk td : Int), (0 ≤ a9 ∧ a9 ≤ be ∧ be ≤ en ∧ en ≤ 900) ∧ (0 ≤ ty ∧ ty ≤ 5) ∧ g 2 = rdC ad q c en ty a9 be tk td ∧ g 1 = bA cs 900 tp

set_option maxRecDepth 100000 in
set_option maxHeartbeats 4000000 in
theorem c_xKindWord (l : Launch) (D : va_G) (A : Nat → Prop) (cs : Nat → ClassId) (tt : Nat) (N : Nat) (ad : Nat → Nat) (g : Nat → va_E) (z : Int) (hz : 0 ≤ z ∧ z ≤ 4) : zM l yX9_kindWord cX9_kindWord 1 (some (.object "java/lang/String")) ({ frames := 1, cells := 0, slots := 0, locals := 60 } : Room) D A cs tt N ad g [.int (zI (z))] (rR0 N ad fun a g' => (∃ q ∈ SKL, a = cs (100 + q.2.2.2.1) ∧ kb_ q = tk_kw (if z = 4 then 5 else 9 + z.toNat)) ∧ g = g') := by
  refine z_of (by decide) (Nat.le_of_ble_eq_true rfl) ?_
  intro p e s m below meth c C hr hlk hnm
  refine z_lv (lv' := [(0, .int (zI (z)))]) [0] rfl ?_
  refine z_iload_n C 0 dX9_kindWord_0 rfl ?_
  by_cases hsy1 : z ≠ 0 ∧ z ≠ 1 ∧ z ≠ 2 ∧ z ≠ 3
  · refine z_tout (tgt := 48) C dX9_kindWord_1 (by omega) (by omega) (by decide) ?_
    refine z_ldcwS C skm6 rfl rfl dX9_kindWord_48 ?_
    obtain rfl : z = 4 := by omega
    exact z_aret C hr (Or.inl ⟨_, rfl⟩) hlk dX9_kindWord_51 (by decide) (by decide) ⟨_, rfl, rfl, rfl, ⟨_, skm6, rfl, kbw_6⟩, rfl⟩
  · rcases (show z = 0 ∨ z = 1 ∨ z = 2 ∨ z = 3 by omega) with rfl | rfl | rfl | rfl
    · refine z_tin (off := 31) (tgt := 32) C dX9_kindWord_1 (by omega) (by omega) (by omega) rfl (by decide) ?_
      refine z_ldcwS C skm2 rfl rfl dX9_kindWord_32 ?_
      exact z_aret C hr (Or.inl ⟨_, rfl⟩) hlk dX9_kindWord_35 (by decide) (by decide) ⟨_, rfl, rfl, rfl, ⟨_, skm2, rfl, kbw_2⟩, rfl⟩
    · refine z_tin (off := 35) (tgt := 36) C dX9_kindWord_1 (by omega) (by omega) (by omega) rfl (by decide) ?_
      refine z_ldcwS C skm3 rfl rfl dX9_kindWord_36 ?_
      exact z_aret C hr (Or.inl ⟨_, rfl⟩) hlk dX9_kindWord_39 (by decide) (by decide) ⟨_, rfl, rfl, rfl, ⟨_, skm3, rfl, kbw_3⟩, rfl⟩
    · refine z_tin (off := 39) (tgt := 40) C dX9_kindWord_1 (by omega) (by omega) (by omega) rfl (by decide) ?_
      refine z_ldcwS C skm4 rfl rfl dX9_kindWord_40 ?_
      exact z_aret C hr (Or.inl ⟨_, rfl⟩) hlk dX9_kindWord_43 (by decide) (by decide) ⟨_, rfl, rfl, rfl, ⟨_, skm4, rfl, kbw_4⟩, rfl⟩
    · refine z_tin (off := 43) (tgt := 44) C dX9_kindWord_1 (by omega) (by omega) (by omega) rfl (by decide) ?_
      refine z_ldcwS C skm5 rfl rfl dX9_kindWord_44 ?_
      exact z_aret C hr (Or.inl ⟨_, rfl⟩) hlk dX9_kindWord_47 (by decide) (by decide) ⟨_, rfl, rfl, rfl, ⟨_, skm5, rfl, kbw_5⟩, rfl⟩

set_option maxRecDepth 100000 in
set_option maxHeartbeats 4000000 in
theorem c_xKind (l : Launch) (D : va_G) (A : Nat → Prop) (cs : Nat → ClassId) (tt : Nat) (N : Nat) (ad : Nat → Nat) (g : Nat → va_E) (hN : 952 ≤ N) (pl tk td : Int) (tp T : Nat → Int) (hT : xT tp T) (n : Nat) (hn : n ≤ 900) (f : Nat) (hf : f ≤ n) (hg2 : g 2 = rdC ad (pl) (0) ((n : Int)) (tk_so T n f) ((f : Int)) (((tk_to T n f : Nat) : Int)) (tk) (td)) (hg1 : g 1 = bA cs 900 tp) : zM l yX7_kind cX7_kind 2 (some .int) ({ frames := 6, cells := 0, slots := 0, locals := 360 } : Room) D A cs tt N ad g [.ref (ad 2)] (rI0 N ad fun r g' => ((r = tk_kd T n f ∧ (0 ≤ r ∧ r ≤ 4) ∧ g' 2 = rdC ad (pl) (0) ((n : Int)) (tk_so T n (tk_nx T n f)) (((tk_nx T n f) : Int)) (((tk_to T n (tk_nx T n f) : Nat) : Int)) ((f : Int)) (td)) ∨ (tk_kd T n f = -1 ∧ r = 0 ∧ g' 2 = rdC ad ((f : Int)) (1) ((n : Int)) (tk_so T n f) ((f : Int)) (((tk_to T n f : Nat) : Int)) (tk) (td))) ∧ ∀ j, j ≠ 2 → g' j = g j) := by
  have hay1 : zAt ad (2) (ad 2) := rfl
  have hay2 : zAt ad (1) (ad 1) := rfl
  have hTr : ∀ k, k < 900 → -128 ≤ tp k ∧ tp k ≤ 127 := fun k hk => (hT k hk).2.1
  have hsb := tk_so_b T n f
  have htb := tk_to_b (T := T) hf
  have hwb := tk_w_b T n f
  refine z_of (by decide) (Nat.le_of_ble_eq_true rfl) ?_
  intro p e s m below meth c C hr hlk hnm
  refine z_lv (lv' := [(0, .ref (ad 2))]) [0] rfl ?_
  refine z_iconst (z := 0) C dX7_kind_0 rfl ?_
  refine z_istore_n (lv' := [(1, .int (zI (0))), (0, .ref (ad 2))]) C dX7_kind_1 rfl (by decide) rfl ?_
  have lp : ∀ (n9 : Nat) (i : Int) (g1 : Nat → va_E), (5 - i).toNat = n9 → (g1 = g) → (0 ≤ i ∧ i ≤ 5) → (tk_w T n f < 9 ∨ 9 + i ≤ tk_w T n f) → (i ≤ 4 ∨ tk_w T n f ≠ 5) → zV p l e ({ frames := 6, cells := 0, slots := 0, locals := 360 } : Room) s m ([.ref (ad 2)] : List Value).toArray below meth c (MQ below (zPost D A (rI0 N ad fun r g' => ((r = tk_kd T n f ∧ (0 ≤ r ∧ r ≤ 4) ∧ g' 2 = rdC ad (pl) (0) ((n : Int)) (tk_so T n (tk_nx T n f)) (((tk_nx T n f) : Int)) (((tk_to T n (tk_nx T n f) : Nat) : Int)) ((f : Int)) (td)) ∨ (tk_kd T n f = -1 ∧ r = 0 ∧ g' 2 = rdC ad ((f : Int)) (1) ((n : Int)) (tk_so T n f) ((f : Int)) (((tk_to T n f : Nat) : Int)) (tk) (td))) ∧ ∀ j, j ≠ 2 → g' j = g j)) ([.ref (ad 2)] : List Value).toArray s ({ frames := 6, cells := 0, slots := 0, locals := 360 } : Room).cells ({ frames := 6, cells := 0, slots := 0, locals := 360 } : Room).slots A) D A 2 (N) ad g1 (0) (0) 2 [(1, .int (zI (i))), (0, .ref (ad 2))] [] := by
    intro n9
    induction n9 using Nat.strongRecOn with
    | ind n9 ih =>
      intro i g1 hm9 hg1_ hi9 hiA hiB
      subst hg1_
      refine z_iload_n C 0 dX7_kind_2 rfl ?_
      refine z_iconst (z := 5) C dX7_kind_3 rfl ?_
      refine z_icmp_ge (tgt := 30) C dX7_kind_4 (by decide) (by omega) (by omega) (fun hby3 => ?_) (fun hby3 => ?_)
      · refine z_aload_n C 1 dX7_kind_30 rfl ?_
        refine z_iconst (z := 1) C dX7_kind_31 rfl ?_
        refine z_aload_n C 1 dX7_kind_32 rfl ?_
        refine z_get (v := .int (zI ((f : Int)))) C (lt_K hN (rfl : Nat.blt (2) 952 = true)) hay1 hg2 rfl inA_X7 5 (by decide) q_49 rfl rfl dX7_kind_33 ?_
        refine z_cV (As := [.int (zI (1)), .int (zI ((f : Int)))]) (rest := []) (ci := 9) C (c_xFail l D A cs tt N ad _ (by omega) _ _ _ _ _ _ _ hg2 (1) ((f : Int))) (lt_K hN (rfl : Nat.blt (2) 952 = true)) hay1 hg2 rfl rfl mv_yX7_fail q_809 hd_yX7_fail (by decide) (Nat.le_of_ble_eq_true rfl) (by decide) dX7_kind_36 rfl (kV0 fun gvy4 hvy4 => ?_)
        obtain ⟨hkvy4, hfvy4⟩ := hvy4
        refine z_iconst (z := 0) C dX7_kind_39 rfl ?_
        exact z_iret C hr hlk dX7_kind_40 (by decide) (by decide) ⟨0, rfl, rfl, rfl, Or.inr ⟨by unfold tk_kd; rw [if_neg (by omega), if_neg (by omega)], rfl, hkvy4⟩, fun j j1 => by rw [hfvy4 _ (by omega)]⟩
      · refine z_aload_n C 1 dX7_kind_7 rfl ?_
        refine z_iload_n C 0 dX7_kind_8 rfl ?_
        refine z_cSN (As := [.int (zI (i))]) (rest := [.ref (ad 2)]) C (c_xKindWord l D A cs tt N ad _ (i) (by omega)) ms_yX9_kindWord n_834 hd_yX9_kindWord (by decide) (Nat.le_of_ble_eq_true rfl) (by decide) dX7_kind_9 rfl (kR0 fun avy5 gvy5 hvy5 => ?_)
        obtain ⟨⟨qvy5, hqvy5, rfl, hkvy5⟩, rfl⟩ := hvy5
        refine z_cV (As := [.ref (cs (100 + qvy5.2.2.2.1))]) (rest := []) (ci := 9) C (c_xIs l D A cs tt N ad _ (by omega) _ _ _ tp T hT n hn f (by omega) hg2 hg1 _ hqvy5) (lt_K hN (rfl : Nat.blt (2) 952 = true)) hay1 hg2 rfl rfl mv_yX7_is q_754 hd_yX7_is (by decide) (Nat.le_of_ble_eq_true rfl) (by decide) dX7_kind_12 rfl (kI0 fun vy6 gvy6 hvy6 => ?_)
        obtain ⟨hvy6, rfl⟩ := hvy6
        have hwvy6 := is_k (i := i) (by omega) hkvy5 hvy6
        clear hvy6
        have hrvy6 : 0 ≤ vy6 ∧ vy6 ≤ 1 := by omega
        refine z_if_eq (tgt := 24) C dX7_kind_15 (by decide) (by omega) (fun hby7 => ?_) (fun hby7 => ?_)
        · refine z_iinc (z := i + 1) (lv' := [(1, .int (zI (i + 1))), (0, .ref (ad 2))]) (j := 0) C dX7_kind_24 rfl rfl (by decide) rfl ?_
          refine z_goto (tgt := 2) C dX7_kind_27 (by decide) ?_
          refine z_lv (lv' := [(1, .int (zI (i + 1))), (0, .ref (ad 2))]) [0, 1] rfl ?_
          exact ih _ (by omega) (i + 1) _ rfl rfl (by omega) (by omega) (by omega)
        · refine z_aload_n C 1 dX7_kind_18 rfl ?_
          refine z_cV (As := []) (rest := []) (ci := 9) C (c_xTake l D A cs tt N ad _ (by omega) _ _ _ tp T hT n hn f (by omega) hg2 hg1) (lt_K hN (rfl : Nat.blt (2) 952 = true)) hay1 hg2 rfl rfl mv_yX7_take q_813 hd_yX7_take (by decide) (Nat.le_of_ble_eq_true rfl) (by decide) dX7_kind_19 rfl (kV0 fun gvy8 hvy8 => ?_)
          obtain ⟨hkvy8, hfvy8⟩ := hvy8
          have hnby9 := tk_nx_b (T := T) (n := n) (f := f) (by omega)
          have hsby10 := tk_so_b T n (tk_nx T n f)
          have htby11 := tk_to_b (T := T) (n := n) (f := (tk_nx T n f)) (by omega)
          refine z_iload_n C 0 dX7_kind_22 rfl ?_
          exact z_iret C hr hlk dX7_kind_23 (by decide) (by decide) ⟨i, rfl, rfl, rfl, Or.inl ⟨by unfold tk_kd; split; omega; split <;> omega, by omega, hkvy8⟩, fun j j1 => by rw [hfvy8 _ (by omega)]⟩
  refine z_lv (lv' := [(1, .int (zI (0))), (0, .ref (ad 2))]) [0, 1] rfl ?_
  exact lp _ (0) _ rfl rfl (by omega) (by omega) (by omega)

set_option maxRecDepth 100000 in
set_option maxHeartbeats 4000000 in
theorem c_xFall (l : Launch) (D : va_G) (A : Nat → Prop) (cs : Nat → ClassId) (tt : Nat) (N : Nat) (ad : Nat → Nat) (g : Nat → va_E) (hN : 952 ≤ N) (pl tk td : Int) (tp T : Nat → Int) (hT : xT tp T) (n : Nat) (hn : n ≤ 900) (f : Nat) (hf : f ≤ n) (hg2 : g 2 = rdC ad (pl) (0) ((n : Int)) (tk_so T n f) ((f : Int)) (((tk_to T n f : Nat) : Int)) (tk) (td)) (hg1 : g 1 = bA cs 900 tp) : zM l yX7_readFall cX7_readFall 2 (some .int) ({ frames := 6, cells := 0, slots := 0, locals := 360 } : Room) D A cs tt N ad g [.ref (ad 2)] (rI0 N ad fun r g' => r = tk_fa T n f ∧ (0 ≤ r ∧ r ≤ 3) ∧ ((r = 0 ∧ g' 2 = rdC ad (pl) (0) ((n : Int)) (tk_so T n f) ((f : Int)) (((tk_to T n f : Nat) : Int)) (tk) (td)) ∨ (r ≠ 0 ∧ g' 2 = rdC ad (pl) (0) ((n : Int)) (tk_so T n (tk_nx T n f)) (((tk_nx T n f) : Int)) (((tk_to T n (tk_nx T n f) : Nat) : Int)) ((f : Int)) (td))) ∧ ∀ j, j ≠ 2 → g' j = g j) := by
  have hay1 : zAt ad (2) (ad 2) := rfl
  have hay2 : zAt ad (1) (ad 1) := rfl
  have hTr : ∀ k, k < 900 → -128 ≤ tp k ∧ tp k ≤ 127 := fun k hk => (hT k hk).2.1
  have hsb := tk_so_b T n f
  have htb := tk_to_b (T := T) hf
  refine z_of (by decide) (Nat.le_of_ble_eq_true rfl) ?_
  intro p e s m below meth c C hr hlk hnm
  refine z_lv (lv' := [(0, .ref (ad 2))]) [0] rfl ?_
  refine z_aload_n C 0 dX7_readFall_0 rfl ?_
  refine z_ldcS C skm8 rfl rfl dX7_readFall_1 ?_
  refine z_cV (As := [.ref (cs (100 + 8))]) (rest := []) (ci := 9) C (c_xIs l D A cs tt N ad _ (by omega) _ _ _ tp T hT n hn f (by omega) hg2 hg1 _ skm8) (lt_K hN (rfl : Nat.blt (2) 952 = true)) hay1 hg2 rfl rfl mv_yX7_is q_754 hd_yX7_is (by decide) (Nat.le_of_ble_eq_true rfl) (by decide) dX7_readFall_3 rfl (kI0 fun vy3 gvy3 hvy3 => ?_)
  obtain ⟨hvy3, rfl⟩ := hvy3
  have hwvy3 := is_w kbw_8 (by decide) hvy3
  clear hvy3
  have hrvy3 : 0 ≤ vy3 ∧ vy3 ≤ 1 := by omega
  refine z_if_eq (tgt := 13) C dX7_readFall_6 (by decide) (by omega) (fun hby4 => ?_) (fun hby4 => ?_)
  · refine z_aload_n C 0 dX7_readFall_13 rfl ?_
    refine z_ldcS C skm9 rfl rfl dX7_readFall_14 ?_
    refine z_cV (As := [.ref (cs (100 + 9))]) (rest := []) (ci := 9) C (c_xIs l D A cs tt N ad _ (by omega) _ _ _ tp T hT n hn f (by omega) hg2 hg1 _ skm9) (lt_K hN (rfl : Nat.blt (2) 952 = true)) hay1 hg2 rfl rfl mv_yX7_is q_754 hd_yX7_is (by decide) (Nat.le_of_ble_eq_true rfl) (by decide) dX7_readFall_16 rfl (kI0 fun vy5 gvy5 hvy5 => ?_)
    obtain ⟨hvy5, rfl⟩ := hvy5
    have hwvy5 := is_w kbw_9 (by decide) hvy5
    clear hvy5
    have hrvy5 : 0 ≤ vy5 ∧ vy5 ≤ 1 := by omega
    refine z_if_eq (tgt := 26) C dX7_readFall_19 (by decide) (by omega) (fun hby6 => ?_) (fun hby6 => ?_)
    · refine z_aload_n C 0 dX7_readFall_26 rfl ?_
      refine z_ldcS C skm10 rfl rfl dX7_readFall_27 ?_
      refine z_cV (As := [.ref (cs (100 + 10))]) (rest := []) (ci := 9) C (c_xIs l D A cs tt N ad _ (by omega) _ _ _ tp T hT n hn f (by omega) hg2 hg1 _ skm10) (lt_K hN (rfl : Nat.blt (2) 952 = true)) hay1 hg2 rfl rfl mv_yX7_is q_754 hd_yX7_is (by decide) (Nat.le_of_ble_eq_true rfl) (by decide) dX7_readFall_29 rfl (kI0 fun vy7 gvy7 hvy7 => ?_)
      obtain ⟨hvy7, rfl⟩ := hvy7
      have hwvy7 := is_w kbw_10 (by decide) hvy7
      clear hvy7
      have hrvy7 : 0 ≤ vy7 ∧ vy7 ≤ 1 := by omega
      refine z_if_eq (tgt := 39) C dX7_readFall_32 (by decide) (by omega) (fun hby8 => ?_) (fun hby8 => ?_)
      · refine z_iconst (z := 0) C dX7_readFall_39 rfl ?_
        refine z_istore_n (lv' := [(1, .int (zI (0))), (0, .ref (ad 2))]) C dX7_readFall_40 rfl (by decide) rfl ?_
        refine z_iload_n C 0 dX7_readFall_41 rfl ?_
        refine z_if_eq (tgt := 49) C dX7_readFall_42 (by decide) (by omega) (fun _ => ?_) (fun h => absurd h (by omega))
        refine z_iload_n C 0 dX7_readFall_49 rfl ?_
        exact z_iret C hr hlk dX7_readFall_50 (by decide) (by decide) ⟨0, rfl, rfl, rfl, by unfold tk_fa; first | (rw [if_pos (by omega)]; omega) | (rw [if_neg (by omega)]), by omega, Or.inl ⟨by decide, hg2⟩, fun j j1 => by rfl⟩
      · refine z_iconst (z := 3) C dX7_readFall_35 rfl ?_
        refine z_goto (tgt := 40) C dX7_readFall_36 (by decide) ?_
        refine z_istore_n (lv' := [(1, .int (zI (3))), (0, .ref (ad 2))]) C dX7_readFall_40 rfl (by decide) rfl ?_
        refine z_iload_n C 0 dX7_readFall_41 rfl ?_
        refine z_if_eq (tgt := 49) C dX7_readFall_42 (by decide) (by omega) (fun h => absurd h (by omega)) (fun _ => ?_)
        refine z_aload_n C 1 dX7_readFall_45 rfl ?_
        refine z_cV (As := []) (rest := []) (ci := 9) C (c_xTake l D A cs tt N ad _ (by omega) _ _ _ tp T hT n hn f (by omega) hg2 hg1) (lt_K hN (rfl : Nat.blt (2) 952 = true)) hay1 hg2 rfl rfl mv_yX7_take q_813 hd_yX7_take (by decide) (Nat.le_of_ble_eq_true rfl) (by decide) dX7_readFall_46 rfl (kV0 fun gvy9 hvy9 => ?_)
        obtain ⟨hkvy9, hfvy9⟩ := hvy9
        have hnby10 := tk_nx_b (T := T) (n := n) (f := f) (by omega)
        have hsby11 := tk_so_b T n (tk_nx T n f)
        have htby12 := tk_to_b (T := T) (n := n) (f := (tk_nx T n f)) (by omega)
        refine z_iload_n C 0 dX7_readFall_49 rfl ?_
        exact z_iret C hr hlk dX7_readFall_50 (by decide) (by decide) ⟨3, rfl, rfl, rfl, by unfold tk_fa; first | (rw [if_pos (by omega)]; omega) | (rw [if_neg (by omega)]), by omega, Or.inr ⟨by decide, hkvy9⟩, fun j j1 => by rw [hfvy9 _ (by omega)]⟩
    · refine z_iconst (z := 2) C dX7_readFall_22 rfl ?_
      refine z_goto (tgt := 40) C dX7_readFall_23 (by decide) ?_
      refine z_istore_n (lv' := [(1, .int (zI (2))), (0, .ref (ad 2))]) C dX7_readFall_40 rfl (by decide) rfl ?_
      refine z_iload_n C 0 dX7_readFall_41 rfl ?_
      refine z_if_eq (tgt := 49) C dX7_readFall_42 (by decide) (by omega) (fun h => absurd h (by omega)) (fun _ => ?_)
      refine z_aload_n C 1 dX7_readFall_45 rfl ?_
      refine z_cV (As := []) (rest := []) (ci := 9) C (c_xTake l D A cs tt N ad _ (by omega) _ _ _ tp T hT n hn f (by omega) hg2 hg1) (lt_K hN (rfl : Nat.blt (2) 952 = true)) hay1 hg2 rfl rfl mv_yX7_take q_813 hd_yX7_take (by decide) (Nat.le_of_ble_eq_true rfl) (by decide) dX7_readFall_46 rfl (kV0 fun gvy13 hvy13 => ?_)
      obtain ⟨hkvy13, hfvy13⟩ := hvy13
      have hnby14 := tk_nx_b (T := T) (n := n) (f := f) (by omega)
      have hsby15 := tk_so_b T n (tk_nx T n f)
      have htby16 := tk_to_b (T := T) (n := n) (f := (tk_nx T n f)) (by omega)
      refine z_iload_n C 0 dX7_readFall_49 rfl ?_
      exact z_iret C hr hlk dX7_readFall_50 (by decide) (by decide) ⟨2, rfl, rfl, rfl, by unfold tk_fa; first | (rw [if_pos (by omega)]; omega) | (rw [if_neg (by omega)]), by omega, Or.inr ⟨by decide, hkvy13⟩, fun j j1 => by rw [hfvy13 _ (by omega)]⟩
  · refine z_iconst (z := 1) C dX7_readFall_9 rfl ?_
    refine z_goto (tgt := 40) C dX7_readFall_10 (by decide) ?_
    refine z_istore_n (lv' := [(1, .int (zI (1))), (0, .ref (ad 2))]) C dX7_readFall_40 rfl (by decide) rfl ?_
    refine z_iload_n C 0 dX7_readFall_41 rfl ?_
    refine z_if_eq (tgt := 49) C dX7_readFall_42 (by decide) (by omega) (fun h => absurd h (by omega)) (fun _ => ?_)
    refine z_aload_n C 1 dX7_readFall_45 rfl ?_
    refine z_cV (As := []) (rest := []) (ci := 9) C (c_xTake l D A cs tt N ad _ (by omega) _ _ _ tp T hT n hn f (by omega) hg2 hg1) (lt_K hN (rfl : Nat.blt (2) 952 = true)) hay1 hg2 rfl rfl mv_yX7_take q_813 hd_yX7_take (by decide) (Nat.le_of_ble_eq_true rfl) (by decide) dX7_readFall_46 rfl (kV0 fun gvy17 hvy17 => ?_)
    obtain ⟨hkvy17, hfvy17⟩ := hvy17
    have hnby18 := tk_nx_b (T := T) (n := n) (f := f) (by omega)
    have hsby19 := tk_so_b T n (tk_nx T n f)
    have htby20 := tk_to_b (T := T) (n := n) (f := (tk_nx T n f)) (by omega)
    refine z_iload_n C 0 dX7_readFall_49 rfl ?_
    exact z_iret C hr hlk dX7_readFall_50 (by decide) (by decide) ⟨1, rfl, rfl, rfl, by unfold tk_fa; first | (rw [if_pos (by omega)]; omega) | (rw [if_neg (by omega)]), by omega, Or.inr ⟨by decide, hkvy17⟩, fun j j1 => by rw [hfvy17 _ (by omega)]⟩

set_option maxRecDepth 100000 in
set_option maxHeartbeats 4000000 in
theorem c_fNumber (l : Launch) (D : va_G) (A : Nat → Prop) (cs : Nat → ClassId) (tt : Nat) (N : Nat) (ad : Nat → Nat) (g : Nat → va_E) (hN : 952 ≤ N) (co : Int) (tp : Nat → Int) (hR : okRun cs ad g co tp) (hco : 1 ≤ co) (z : Int) (hz : 0 ≤ z ∧ z ≤ 9999) (z1 : Int) (hz1 : 0 ≤ z1 ∧ z1 ≤ 9999) : zM l yX7_number cX7_number 5 (some .int) ({ frames := 5, cells := 0, slots := 0, locals := 300 } : Room) D A cs tt N ad g [.ref (ad 2), .int (zI (z)), .int (zI (z1))] (rI0 N ad fun r g' => (0 ≤ r ∧ r ≤ z1) ∧ g = g') := by
  obtain ⟨pldy1, endy1, tydy1, a9dy1, bedy1, tkdy1, tddy1, hAdy1, hTdy1, hcdy1, hddy1⟩ := id hR
  have hay2 : zAt ad (2) (ad 2) := rfl
  have hay3 : zAt ad (1) (ad 1) := rfl
  refine z_of (by decide) (Nat.le_of_ble_eq_true rfl) ?_
  intro p e s m below meth c C hr hlk hnm
  refine z_lv (lv' := [(0, .ref (ad 2)), (1, .int (zI (z))), (2, .int (zI (z1)))]) [0, 1, 2] rfl ?_
  refine z_aload_n C 0 dX7_number_0 rfl ?_
  refine z_get (v := .int (zI (tydy1))) C (lt_K hN (rfl : Nat.blt (2) 952 = true)) hay2 hcdy1 rfl inA_X7 4 (by decide) q_48 rfl rfl dX7_number_1 ?_
  refine z_iconst (z := 2) C dX7_number_4 rfl ?_
  refine z_icmp_eq (tgt := 19) C dX7_number_5 (by decide) (by omega) (by omega) (fun hby4 => ?_) (fun hby4 => ?_)
  · refine z_iconst (z := 0) C dX7_number_19 rfl ?_
    refine z_istore_n (lv' := [(3, .int (zI (0))), (0, .ref (ad 2)), (1, .int (zI (z))), (2, .int (zI (z1)))]) C dX7_number_20 rfl (by decide) rfl ?_
    refine z_aload_n C 1 dX7_number_21 rfl ?_
    refine z_get (v := .int (zI (a9dy1))) C (lt_K hN (rfl : Nat.blt (2) 952 = true)) hay2 hcdy1 rfl inA_X7 5 (by decide) q_49 rfl rfl dX7_number_22 ?_
    refine z_istore (lv' := [(4, .int (zI (a9dy1))), (3, .int (zI (0))), (0, .ref (ad 2)), (1, .int (zI (z))), (2, .int (zI (z1)))]) C dX7_number_25 (by decide) rfl ?_
    have lp : ∀ (n9 : Nat) (i : Int) (va : Int) (g1 : Nat → va_E), (900 - i).toNat = n9 → (g1 = g) → (0 ≤ i ∧ i ≤ 900) → (-2147483648 ≤ va ∧ va ≤ 2147483647) → zV p l e ({ frames := 5, cells := 0, slots := 0, locals := 300 } : Room) s m ([.ref (ad 2), .int (zI (z)), .int (zI (z1))] : List Value).toArray below meth c (MQ below (zPost D A (rI0 N ad fun r g' => (0 ≤ r ∧ r ≤ z1) ∧ g = g')) ([.ref (ad 2), .int (zI (z)), .int (zI (z1))] : List Value).toArray s ({ frames := 5, cells := 0, slots := 0, locals := 300 } : Room).cells ({ frames := 5, cells := 0, slots := 0, locals := 300 } : Room).slots A) D A 5 (N) ad g1 (0) (0) 27 [(4, .int (zI (i))), (3, .int (zI (va))), (0, .ref (ad 2)), (1, .int (zI (z))), (2, .int (zI (z1)))] [] := by
      intro n9
      induction n9 using Nat.strongRecOn with
      | ind n9 ih =>
        intro i va g1 hm9 hg1 hi9 hv9
        subst hg1
        refine z_iload C 0 dX7_number_27 rfl ?_
        refine z_aload_n C 2 dX7_number_29 rfl ?_
        refine z_get (v := .int (zI (bedy1))) C (lt_K hN (rfl : Nat.blt (2) 952 = true)) hay2 hcdy1 rfl inA_X7 6 (by decide) q_50 rfl rfl dX7_number_30 ?_
        refine z_icmp_ge (tgt := 63) C dX7_number_33 (by decide) (by omega) (by omega) (fun hby5 => ?_) (fun hby5 => ?_)
        · refine z_aload_n C 2 dX7_number_63 rfl ?_
          refine z_get (v := .int (zI (bedy1))) C (lt_K hN (rfl : Nat.blt (2) 952 = true)) hay2 hcdy1 rfl inA_X7 6 (by decide) q_50 rfl rfl dX7_number_64 ?_
          refine z_aload_n C 2 dX7_number_67 rfl ?_
          refine z_get (v := .int (zI (a9dy1))) C (lt_K hN (rfl : Nat.blt (2) 952 = true)) hay2 hcdy1 rfl inA_X7 5 (by decide) q_49 rfl rfl dX7_number_68 ?_
          refine z_isub C dX7_number_71 ?_
          refine z_iconst (z := 4) C dX7_number_72 rfl ?_
          refine z_icmp_gt (tgt := 86) C dX7_number_73 (by decide) (by omega) (by omega) (fun hby6 => ?_) (fun hby6 => ?_)
          · refine z_aload_n C 2 dX7_number_86 rfl ?_
            refine z_iconst (z := 2) C dX7_number_87 rfl ?_
            refine z_aload_n C 2 dX7_number_88 rfl ?_
            refine z_get (v := .int (zI (a9dy1))) C (lt_K hN (rfl : Nat.blt (2) 952 = true)) hay2 hcdy1 rfl inA_X7 5 (by decide) q_49 rfl rfl dX7_number_89 ?_
            refine z_cV (As := [.int (zI (2)), .int (zI (a9dy1))]) (rest := []) (ci := 9) C (c_fFail l D A cs tt N ad _ (by omega) _ _ _ _ _ _ _ _ (by omega) hcdy1 (2) (a9dy1)) (lt_K hN (rfl : Nat.blt (2) 952 = true)) hay2 hcdy1 rfl rfl mv_yX7_fail q_809 hd_yX7_fail (by decide) (Nat.le_of_ble_eq_true rfl) (by decide) dX7_number_92 rfl (kV0 fun gvy7 hvy7 => ?_)
            obtain rfl := hvy7
            refine z_iconst (z := 0) C dX7_number_95 rfl ?_
            exact z_iret C hr hlk dX7_number_96 (by decide) (by decide) ⟨0, rfl, rfl, rfl, by omega, rfl⟩
          · refine z_iload_n C 1 dX7_number_76 rfl ?_
            refine z_iload_n C 3 dX7_number_77 rfl ?_
            refine z_icmp_lt (tgt := 86) C dX7_number_78 (by decide) (by omega) (by omega) (fun hby8 => ?_) (fun hby8 => ?_)
            · refine z_aload_n C 2 dX7_number_86 rfl ?_
              refine z_iconst (z := 2) C dX7_number_87 rfl ?_
              refine z_aload_n C 2 dX7_number_88 rfl ?_
              refine z_get (v := .int (zI (a9dy1))) C (lt_K hN (rfl : Nat.blt (2) 952 = true)) hay2 hcdy1 rfl inA_X7 5 (by decide) q_49 rfl rfl dX7_number_89 ?_
              refine z_cV (As := [.int (zI (2)), .int (zI (a9dy1))]) (rest := []) (ci := 9) C (c_fFail l D A cs tt N ad _ (by omega) _ _ _ _ _ _ _ _ (by omega) hcdy1 (2) (a9dy1)) (lt_K hN (rfl : Nat.blt (2) 952 = true)) hay2 hcdy1 rfl rfl mv_yX7_fail q_809 hd_yX7_fail (by decide) (Nat.le_of_ble_eq_true rfl) (by decide) dX7_number_92 rfl (kV0 fun gvy9 hvy9 => ?_)
              obtain rfl := hvy9
              refine z_iconst (z := 0) C dX7_number_95 rfl ?_
              exact z_iret C hr hlk dX7_number_96 (by decide) (by decide) ⟨0, rfl, rfl, rfl, by omega, rfl⟩
            · refine z_iload_n C 1 dX7_number_81 rfl ?_
              refine z_iload_n C 4 dX7_number_82 rfl ?_
              refine z_icmp_le (tgt := 97) C dX7_number_83 (by decide) (by omega) (by omega) (fun hby10 => ?_) (fun hby10 => ?_)
              · refine z_aload_n C 2 dX7_number_97 rfl ?_
                refine z_cV (As := []) (rest := []) (ci := 9) C (c_fTake l D A cs tt N ad _ (by omega) _ _ _ _ _ _ _ _ (by omega) hcdy1) (lt_K hN (rfl : Nat.blt (2) 952 = true)) hay2 hcdy1 rfl rfl mv_yX7_take q_813 hd_yX7_take (by decide) (Nat.le_of_ble_eq_true rfl) (by decide) dX7_number_98 rfl (kV0 fun gvy11 hvy11 => ?_)
                obtain rfl := hvy11
                refine z_iload_n C 1 dX7_number_101 rfl ?_
                exact z_iret C hr hlk dX7_number_102 (by decide) (by decide) ⟨va, rfl, rfl, rfl, by omega, rfl⟩
              · refine z_aload_n C 2 dX7_number_86 rfl ?_
                refine z_iconst (z := 2) C dX7_number_87 rfl ?_
                refine z_aload_n C 2 dX7_number_88 rfl ?_
                refine z_get (v := .int (zI (a9dy1))) C (lt_K hN (rfl : Nat.blt (2) 952 = true)) hay2 hcdy1 rfl inA_X7 5 (by decide) q_49 rfl rfl dX7_number_89 ?_
                refine z_cV (As := [.int (zI (2)), .int (zI (a9dy1))]) (rest := []) (ci := 9) C (c_fFail l D A cs tt N ad _ (by omega) _ _ _ _ _ _ _ _ (by omega) hcdy1 (2) (a9dy1)) (lt_K hN (rfl : Nat.blt (2) 952 = true)) hay2 hcdy1 rfl rfl mv_yX7_fail q_809 hd_yX7_fail (by decide) (Nat.le_of_ble_eq_true rfl) (by decide) dX7_number_92 rfl (kV0 fun gvy12 hvy12 => ?_)
                obtain rfl := hvy12
                refine z_iconst (z := 0) C dX7_number_95 rfl ?_
                exact z_iret C hr hlk dX7_number_96 (by decide) (by decide) ⟨0, rfl, rfl, rfl, by omega, rfl⟩
        · refine z_iload_n C 1 dX7_number_36 rfl ?_
          refine z_iload_n C 4 dX7_number_37 rfl ?_
          refine z_icmp_gt (tgt := 63) C dX7_number_38 (by decide) (by omega) (by omega) (fun hby13 => ?_) (fun hby13 => ?_)
          · refine z_aload_n C 2 dX7_number_63 rfl ?_
            refine z_get (v := .int (zI (bedy1))) C (lt_K hN (rfl : Nat.blt (2) 952 = true)) hay2 hcdy1 rfl inA_X7 6 (by decide) q_50 rfl rfl dX7_number_64 ?_
            refine z_aload_n C 2 dX7_number_67 rfl ?_
            refine z_get (v := .int (zI (a9dy1))) C (lt_K hN (rfl : Nat.blt (2) 952 = true)) hay2 hcdy1 rfl inA_X7 5 (by decide) q_49 rfl rfl dX7_number_68 ?_
            refine z_isub C dX7_number_71 ?_
            refine z_iconst (z := 4) C dX7_number_72 rfl ?_
            refine z_icmp_gt (tgt := 86) C dX7_number_73 (by decide) (by omega) (by omega) (fun hby14 => ?_) (fun hby14 => ?_)
            · refine z_aload_n C 2 dX7_number_86 rfl ?_
              refine z_iconst (z := 2) C dX7_number_87 rfl ?_
              refine z_aload_n C 2 dX7_number_88 rfl ?_
              refine z_get (v := .int (zI (a9dy1))) C (lt_K hN (rfl : Nat.blt (2) 952 = true)) hay2 hcdy1 rfl inA_X7 5 (by decide) q_49 rfl rfl dX7_number_89 ?_
              refine z_cV (As := [.int (zI (2)), .int (zI (a9dy1))]) (rest := []) (ci := 9) C (c_fFail l D A cs tt N ad _ (by omega) _ _ _ _ _ _ _ _ (by omega) hcdy1 (2) (a9dy1)) (lt_K hN (rfl : Nat.blt (2) 952 = true)) hay2 hcdy1 rfl rfl mv_yX7_fail q_809 hd_yX7_fail (by decide) (Nat.le_of_ble_eq_true rfl) (by decide) dX7_number_92 rfl (kV0 fun gvy15 hvy15 => ?_)
              obtain rfl := hvy15
              refine z_iconst (z := 0) C dX7_number_95 rfl ?_
              exact z_iret C hr hlk dX7_number_96 (by decide) (by decide) ⟨0, rfl, rfl, rfl, by omega, rfl⟩
            · refine z_iload_n C 1 dX7_number_76 rfl ?_
              refine z_iload_n C 3 dX7_number_77 rfl ?_
              refine z_icmp_lt (tgt := 86) C dX7_number_78 (by decide) (by omega) (by omega) (fun hby16 => ?_) (fun hby16 => ?_)
              · refine z_aload_n C 2 dX7_number_86 rfl ?_
                refine z_iconst (z := 2) C dX7_number_87 rfl ?_
                refine z_aload_n C 2 dX7_number_88 rfl ?_
                refine z_get (v := .int (zI (a9dy1))) C (lt_K hN (rfl : Nat.blt (2) 952 = true)) hay2 hcdy1 rfl inA_X7 5 (by decide) q_49 rfl rfl dX7_number_89 ?_
                refine z_cV (As := [.int (zI (2)), .int (zI (a9dy1))]) (rest := []) (ci := 9) C (c_fFail l D A cs tt N ad _ (by omega) _ _ _ _ _ _ _ _ (by omega) hcdy1 (2) (a9dy1)) (lt_K hN (rfl : Nat.blt (2) 952 = true)) hay2 hcdy1 rfl rfl mv_yX7_fail q_809 hd_yX7_fail (by decide) (Nat.le_of_ble_eq_true rfl) (by decide) dX7_number_92 rfl (kV0 fun gvy17 hvy17 => ?_)
                obtain rfl := hvy17
                refine z_iconst (z := 0) C dX7_number_95 rfl ?_
                exact z_iret C hr hlk dX7_number_96 (by decide) (by decide) ⟨0, rfl, rfl, rfl, by omega, rfl⟩
              · refine z_iload_n C 1 dX7_number_81 rfl ?_
                refine z_iload_n C 4 dX7_number_82 rfl ?_
                refine z_icmp_le (tgt := 97) C dX7_number_83 (by decide) (by omega) (by omega) (fun hby18 => ?_) (fun hby18 => ?_)
                · refine z_aload_n C 2 dX7_number_97 rfl ?_
                  refine z_cV (As := []) (rest := []) (ci := 9) C (c_fTake l D A cs tt N ad _ (by omega) _ _ _ _ _ _ _ _ (by omega) hcdy1) (lt_K hN (rfl : Nat.blt (2) 952 = true)) hay2 hcdy1 rfl rfl mv_yX7_take q_813 hd_yX7_take (by decide) (Nat.le_of_ble_eq_true rfl) (by decide) dX7_number_98 rfl (kV0 fun gvy19 hvy19 => ?_)
                  obtain rfl := hvy19
                  refine z_iload_n C 1 dX7_number_101 rfl ?_
                  exact z_iret C hr hlk dX7_number_102 (by decide) (by decide) ⟨va, rfl, rfl, rfl, by omega, rfl⟩
                · refine z_aload_n C 2 dX7_number_86 rfl ?_
                  refine z_iconst (z := 2) C dX7_number_87 rfl ?_
                  refine z_aload_n C 2 dX7_number_88 rfl ?_
                  refine z_get (v := .int (zI (a9dy1))) C (lt_K hN (rfl : Nat.blt (2) 952 = true)) hay2 hcdy1 rfl inA_X7 5 (by decide) q_49 rfl rfl dX7_number_89 ?_
                  refine z_cV (As := [.int (zI (2)), .int (zI (a9dy1))]) (rest := []) (ci := 9) C (c_fFail l D A cs tt N ad _ (by omega) _ _ _ _ _ _ _ _ (by omega) hcdy1 (2) (a9dy1)) (lt_K hN (rfl : Nat.blt (2) 952 = true)) hay2 hcdy1 rfl rfl mv_yX7_fail q_809 hd_yX7_fail (by decide) (Nat.le_of_ble_eq_true rfl) (by decide) dX7_number_92 rfl (kV0 fun gvy20 hvy20 => ?_)
                  obtain rfl := hvy20
                  refine z_iconst (z := 0) C dX7_number_95 rfl ?_
                  exact z_iret C hr hlk dX7_number_96 (by decide) (by decide) ⟨0, rfl, rfl, rfl, by omega, rfl⟩
          · refine z_bipush (z := 10) C dX7_number_41 (by decide) ?_
            refine z_iload_n C 1 dX7_number_43 rfl ?_
            refine z_imul C dX7_number_44 ?_
            refine z_aload_n C 2 dX7_number_45 rfl ?_
            refine z_get (v := .ref (ad 1)) C (lt_K hN (rfl : Nat.blt (2) 952 = true)) hay2 hcdy1 rfl inA_X7 2 (by decide) q_46 rfl rfl dX7_number_46 ?_
            refine z_iload C 0 dX7_number_49 rfl ?_
            refine z_bald C (lt_K hN (rfl : Nat.blt (1) 952 = true)) hay3 hddy1 ((i).toNat) (by omega) (by omega) (by decide) dX7_number_51 ?_
            refine z_iadd C dX7_number_52 ?_
            refine z_bipush (z := 48) C dX7_number_53 (by decide) ?_
            refine z_isub C dX7_number_55 ?_
            refine z_istore_n (lv' := [(3, .int (zI (((10 * va) + (tp ((i).toNat))) - 48))), (4, .int (zI (i))), (0, .ref (ad 2)), (1, .int (zI (z))), (2, .int (zI (z1)))]) C dX7_number_56 rfl (by decide) rfl ?_
            refine z_iinc (z := i + 1) (lv' := [(4, .int (zI (i + 1))), (3, .int (zI (((10 * va) + (tp ((i).toNat))) - 48))), (0, .ref (ad 2)), (1, .int (zI (z))), (2, .int (zI (z1)))]) (j := 1) C dX7_number_57 rfl rfl (by decide) rfl ?_
            refine z_goto (tgt := 27) C dX7_number_60 (by decide) ?_
            obtain ⟨xy21, exy22, hxy23⟩ := zI_of (zI (((10 * va) + (tp ((i).toNat))) - 48))
            rw [exy22]
            refine z_lv (lv' := [(4, .int (zI (i + 1))), (3, .int (zI (xy21))), (0, .ref (ad 2)), (1, .int (zI (z))), (2, .int (zI (z1)))]) [0, 1, 2, 3, 4] rfl ?_
            exact ih _ (by omega) (i + 1) (xy21) _ rfl rfl (by omega) (by omega)
    refine z_lv (lv' := [(4, .int (zI (a9dy1))), (3, .int (zI (0))), (0, .ref (ad 2)), (1, .int (zI (z))), (2, .int (zI (z1)))]) [0, 1, 2, 3, 4] rfl ?_
    exact lp _ (a9dy1) (0) _ rfl rfl (by omega) (by omega)
  · refine z_aload_n C 0 dX7_number_8 rfl ?_
    refine z_iconst (z := 1) C dX7_number_9 rfl ?_
    refine z_aload_n C 0 dX7_number_10 rfl ?_
    refine z_get (v := .int (zI (a9dy1))) C (lt_K hN (rfl : Nat.blt (2) 952 = true)) hay2 hcdy1 rfl inA_X7 5 (by decide) q_49 rfl rfl dX7_number_11 ?_
    refine z_cV (As := [.int (zI (1)), .int (zI (a9dy1))]) (rest := []) (ci := 9) C (c_fFail l D A cs tt N ad _ (by omega) _ _ _ _ _ _ _ _ (by omega) hcdy1 (1) (a9dy1)) (lt_K hN (rfl : Nat.blt (2) 952 = true)) hay2 hcdy1 rfl rfl mv_yX7_fail q_809 hd_yX7_fail (by decide) (Nat.le_of_ble_eq_true rfl) (by decide) dX7_number_14 rfl (kV0 fun gvy24 hvy24 => ?_)
    obtain rfl := hvy24
    refine z_iconst (z := 0) C dX7_number_17 rfl ?_
    exact z_iret C hr hlk dX7_number_18 (by decide) (by decide) ⟨0, rfl, rfl, rfl, by omega, rfl⟩

set_option maxRecDepth 100000 in
set_option maxHeartbeats 4000000 in
theorem c_fKind (l : Launch) (D : va_G) (A : Nat → Prop) (cs : Nat → ClassId) (tt : Nat) (N : Nat) (ad : Nat → Nat) (g : Nat → va_E) (hN : 952 ≤ N) (co : Int) (tp : Nat → Int) (hR : okRun cs ad g co tp) (hco : 1 ≤ co) : zM l yX7_kind cX7_kind 2 (some .int) ({ frames := 6, cells := 0, slots := 0, locals := 360 } : Room) D A cs tt N ad g [.ref (ad 2)] (rI0 N ad fun r g' => (0 ≤ r ∧ r ≤ 4) ∧ g = g') := by
  obtain ⟨pldy1, endy1, tydy1, a9dy1, bedy1, tkdy1, tddy1, hAdy1, hTdy1, hcdy1, hddy1⟩ := id hR
  have hay2 : zAt ad (2) (ad 2) := rfl
  have hay3 : zAt ad (1) (ad 1) := rfl
  refine z_of (by decide) (Nat.le_of_ble_eq_true rfl) ?_
  intro p e s m below meth c C hr hlk hnm
  refine z_lv (lv' := [(0, .ref (ad 2))]) [0] rfl ?_
  refine z_iconst (z := 0) C dX7_kind_0 rfl ?_
  refine z_istore_n (lv' := [(1, .int (zI (0))), (0, .ref (ad 2))]) C dX7_kind_1 rfl (by decide) rfl ?_
  have lp : ∀ (n9 : Nat) (i : Int) (g1 : Nat → va_E), (5 - i).toNat = n9 → (g1 = g) → (0 ≤ i ∧ i ≤ 5) → zV p l e ({ frames := 6, cells := 0, slots := 0, locals := 360 } : Room) s m ([.ref (ad 2)] : List Value).toArray below meth c (MQ below (zPost D A (rI0 N ad fun r g' => (0 ≤ r ∧ r ≤ 4) ∧ g = g')) ([.ref (ad 2)] : List Value).toArray s ({ frames := 6, cells := 0, slots := 0, locals := 360 } : Room).cells ({ frames := 6, cells := 0, slots := 0, locals := 360 } : Room).slots A) D A 2 (N) ad g1 (0) (0) 2 [(1, .int (zI (i))), (0, .ref (ad 2))] [] := by
    intro n9
    induction n9 using Nat.strongRecOn with
    | ind n9 ih =>
      intro i g1 hm9 hg1 hi9
      subst hg1
      refine z_iload_n C 0 dX7_kind_2 rfl ?_
      refine z_iconst (z := 5) C dX7_kind_3 rfl ?_
      refine z_icmp_ge (tgt := 30) C dX7_kind_4 (by decide) (by omega) (by omega) (fun hby4 => ?_) (fun hby4 => ?_)
      · refine z_aload_n C 1 dX7_kind_30 rfl ?_
        refine z_iconst (z := 1) C dX7_kind_31 rfl ?_
        refine z_aload_n C 1 dX7_kind_32 rfl ?_
        refine z_get (v := .int (zI (a9dy1))) C (lt_K hN (rfl : Nat.blt (2) 952 = true)) hay2 hcdy1 rfl inA_X7 5 (by decide) q_49 rfl rfl dX7_kind_33 ?_
        refine z_cV (As := [.int (zI (1)), .int (zI (a9dy1))]) (rest := []) (ci := 9) C (c_fFail l D A cs tt N ad _ (by omega) _ _ _ _ _ _ _ _ (by omega) hcdy1 (1) (a9dy1)) (lt_K hN (rfl : Nat.blt (2) 952 = true)) hay2 hcdy1 rfl rfl mv_yX7_fail q_809 hd_yX7_fail (by decide) (Nat.le_of_ble_eq_true rfl) (by decide) dX7_kind_36 rfl (kV0 fun gvy5 hvy5 => ?_)
        obtain rfl := hvy5
        refine z_iconst (z := 0) C dX7_kind_39 rfl ?_
        exact z_iret C hr hlk dX7_kind_40 (by decide) (by decide) ⟨0, rfl, rfl, rfl, by omega, rfl⟩
      · refine z_aload_n C 1 dX7_kind_7 rfl ?_
        refine z_iload_n C 0 dX7_kind_8 rfl ?_
        refine z_cSN (As := [.int (zI (i))]) (rest := [.ref (ad 2)]) C (c_kindWord l D A cs tt N ad _ (i) (by omega)) ms_yX9_kindWord n_834 hd_yX9_kindWord (by decide) (Nat.le_of_ble_eq_true rfl) (by decide) dX7_kind_9 rfl (kR0 fun avy6 gvy6 hvy6 => ?_)
        obtain ⟨⟨qvy6, hqvy6, rfl⟩, rfl⟩ := hvy6
        have hruny7 : okRun cs ad g1 (co) tp := ⟨_, _, _, _, _, _, _, by omega, by omega, hcdy1, hddy1⟩
        refine z_cV (As := [.ref (cs (100 + qvy6.2.2.2.1))]) (rest := []) (ci := 9) C (c_X7_is l D A cs tt N ad _ (by omega) _ tp hruny7 _ hqvy6) (lt_K hN (rfl : Nat.blt (2) 952 = true)) hay2 hcdy1 rfl rfl mv_yX7_is q_754 hd_yX7_is (by decide) (Nat.le_of_ble_eq_true rfl) (by decide) dX7_kind_12 rfl (kI0 fun vy8 gvy8 hvy8 => ?_)
        obtain ⟨hvy8, rfl⟩ := hvy8
        refine z_if_eq (tgt := 24) C dX7_kind_15 (by decide) (by omega) (fun hby9 => ?_) (fun hby9 => ?_)
        · refine z_iinc (z := i + 1) (lv' := [(1, .int (zI (i + 1))), (0, .ref (ad 2))]) (j := 0) C dX7_kind_24 rfl rfl (by decide) rfl ?_
          refine z_goto (tgt := 2) C dX7_kind_27 (by decide) ?_
          refine z_lv (lv' := [(1, .int (zI (i + 1))), (0, .ref (ad 2))]) [0, 1] rfl ?_
          exact ih _ (by omega) (i + 1) _ rfl rfl (by omega)
        · refine z_aload_n C 1 dX7_kind_18 rfl ?_
          refine z_cV (As := []) (rest := []) (ci := 9) C (c_fTake l D A cs tt N ad _ (by omega) _ _ _ _ _ _ _ _ (by omega) hcdy1) (lt_K hN (rfl : Nat.blt (2) 952 = true)) hay2 hcdy1 rfl rfl mv_yX7_take q_813 hd_yX7_take (by decide) (Nat.le_of_ble_eq_true rfl) (by decide) dX7_kind_19 rfl (kV0 fun gvy10 hvy10 => ?_)
          obtain rfl := hvy10
          refine z_iload_n C 0 dX7_kind_22 rfl ?_
          exact z_iret C hr hlk dX7_kind_23 (by decide) (by decide) ⟨i, rfl, rfl, rfl, by omega, rfl⟩
  refine z_lv (lv' := [(1, .int (zI (0))), (0, .ref (ad 2))]) [0, 1] rfl ?_
  exact lp _ (0) _ rfl rfl (by omega)

set_option maxRecDepth 100000 in
set_option maxHeartbeats 4000000 in
theorem c_fFall (l : Launch) (D : va_G) (A : Nat → Prop) (cs : Nat → ClassId) (tt : Nat) (N : Nat) (ad : Nat → Nat) (g : Nat → va_E) (hN : 952 ≤ N) (co : Int) (tp : Nat → Int) (hR : okRun cs ad g co tp) (hco : 1 ≤ co) : zM l yX7_readFall cX7_readFall 2 (some .int) ({ frames := 6, cells := 0, slots := 0, locals := 360 } : Room) D A cs tt N ad g [.ref (ad 2)] (rI0 N ad fun r g' => (0 ≤ r ∧ r ≤ 3) ∧ g = g') := by
  obtain ⟨pldy1, endy1, tydy1, a9dy1, bedy1, tkdy1, tddy1, hAdy1, hTdy1, hcdy1, hddy1⟩ := id hR
  have hay2 : zAt ad (2) (ad 2) := rfl
  have hay3 : zAt ad (1) (ad 1) := rfl
  refine z_of (by decide) (Nat.le_of_ble_eq_true rfl) ?_
  intro p e s m below meth c C hr hlk hnm
  refine z_lv (lv' := [(0, .ref (ad 2))]) [0] rfl ?_
  refine z_aload_n C 0 dX7_readFall_0 rfl ?_
  refine z_ldcS C skm8 rfl rfl dX7_readFall_1 ?_
  have hruny4 : okRun cs ad g (co) tp := ⟨_, _, _, _, _, _, _, by omega, by omega, hcdy1, hddy1⟩
  refine z_cV (As := [.ref (cs (100 + 8))]) (rest := []) (ci := 9) C (c_X7_is l D A cs tt N ad _ (by omega) _ tp hruny4 _ skm8) (lt_K hN (rfl : Nat.blt (2) 952 = true)) hay2 hcdy1 rfl rfl mv_yX7_is q_754 hd_yX7_is (by decide) (Nat.le_of_ble_eq_true rfl) (by decide) dX7_readFall_3 rfl (kI0 fun vy5 gvy5 hvy5 => ?_)
  obtain ⟨hvy5, rfl⟩ := hvy5
  refine z_if_eq (tgt := 13) C dX7_readFall_6 (by decide) (by omega) (fun hby6 => ?_) (fun hby6 => ?_)
  · refine z_aload_n C 0 dX7_readFall_13 rfl ?_
    refine z_ldcS C skm9 rfl rfl dX7_readFall_14 ?_
    have hruny7 : okRun cs ad g (co) tp := ⟨_, _, _, _, _, _, _, by omega, by omega, hcdy1, hddy1⟩
    refine z_cV (As := [.ref (cs (100 + 9))]) (rest := []) (ci := 9) C (c_X7_is l D A cs tt N ad _ (by omega) _ tp hruny7 _ skm9) (lt_K hN (rfl : Nat.blt (2) 952 = true)) hay2 hcdy1 rfl rfl mv_yX7_is q_754 hd_yX7_is (by decide) (Nat.le_of_ble_eq_true rfl) (by decide) dX7_readFall_16 rfl (kI0 fun vy8 gvy8 hvy8 => ?_)
    obtain ⟨hvy8, rfl⟩ := hvy8
    refine z_if_eq (tgt := 26) C dX7_readFall_19 (by decide) (by omega) (fun hby9 => ?_) (fun hby9 => ?_)
    · refine z_aload_n C 0 dX7_readFall_26 rfl ?_
      refine z_ldcS C skm10 rfl rfl dX7_readFall_27 ?_
      have hruny10 : okRun cs ad g (co) tp := ⟨_, _, _, _, _, _, _, by omega, by omega, hcdy1, hddy1⟩
      refine z_cV (As := [.ref (cs (100 + 10))]) (rest := []) (ci := 9) C (c_X7_is l D A cs tt N ad _ (by omega) _ tp hruny10 _ skm10) (lt_K hN (rfl : Nat.blt (2) 952 = true)) hay2 hcdy1 rfl rfl mv_yX7_is q_754 hd_yX7_is (by decide) (Nat.le_of_ble_eq_true rfl) (by decide) dX7_readFall_29 rfl (kI0 fun vy11 gvy11 hvy11 => ?_)
      obtain ⟨hvy11, rfl⟩ := hvy11
      refine z_if_eq (tgt := 39) C dX7_readFall_32 (by decide) (by omega) (fun hby12 => ?_) (fun hby12 => ?_)
      · refine z_iconst (z := 0) C dX7_readFall_39 rfl ?_
        refine z_istore_n (lv' := [(1, .int (zI (0))), (0, .ref (ad 2))]) C dX7_readFall_40 rfl (by decide) rfl ?_
        refine z_iload_n C 0 dX7_readFall_41 rfl ?_
        refine z_if_eq (tgt := 49) C dX7_readFall_42 (by decide) (by omega) (fun _ => ?_) (fun h => absurd h (by omega))
        refine z_iload_n C 0 dX7_readFall_49 rfl ?_
        exact z_iret C hr hlk dX7_readFall_50 (by decide) (by decide) ⟨0, rfl, rfl, rfl, by omega, rfl⟩
      · refine z_iconst (z := 3) C dX7_readFall_35 rfl ?_
        refine z_goto (tgt := 40) C dX7_readFall_36 (by decide) ?_
        refine z_istore_n (lv' := [(1, .int (zI (3))), (0, .ref (ad 2))]) C dX7_readFall_40 rfl (by decide) rfl ?_
        refine z_iload_n C 0 dX7_readFall_41 rfl ?_
        refine z_if_eq (tgt := 49) C dX7_readFall_42 (by decide) (by omega) (fun h => absurd h (by omega)) (fun _ => ?_)
        refine z_aload_n C 1 dX7_readFall_45 rfl ?_
        refine z_cV (As := []) (rest := []) (ci := 9) C (c_fTake l D A cs tt N ad _ (by omega) _ _ _ _ _ _ _ _ (by omega) hcdy1) (lt_K hN (rfl : Nat.blt (2) 952 = true)) hay2 hcdy1 rfl rfl mv_yX7_take q_813 hd_yX7_take (by decide) (Nat.le_of_ble_eq_true rfl) (by decide) dX7_readFall_46 rfl (kV0 fun gvy13 hvy13 => ?_)
        obtain rfl := hvy13
        refine z_iload_n C 0 dX7_readFall_49 rfl ?_
        exact z_iret C hr hlk dX7_readFall_50 (by decide) (by decide) ⟨3, rfl, rfl, rfl, by omega, rfl⟩
    · refine z_iconst (z := 2) C dX7_readFall_22 rfl ?_
      refine z_goto (tgt := 40) C dX7_readFall_23 (by decide) ?_
      refine z_istore_n (lv' := [(1, .int (zI (2))), (0, .ref (ad 2))]) C dX7_readFall_40 rfl (by decide) rfl ?_
      refine z_iload_n C 0 dX7_readFall_41 rfl ?_
      refine z_if_eq (tgt := 49) C dX7_readFall_42 (by decide) (by omega) (fun h => absurd h (by omega)) (fun _ => ?_)
      refine z_aload_n C 1 dX7_readFall_45 rfl ?_
      refine z_cV (As := []) (rest := []) (ci := 9) C (c_fTake l D A cs tt N ad _ (by omega) _ _ _ _ _ _ _ _ (by omega) hcdy1) (lt_K hN (rfl : Nat.blt (2) 952 = true)) hay2 hcdy1 rfl rfl mv_yX7_take q_813 hd_yX7_take (by decide) (Nat.le_of_ble_eq_true rfl) (by decide) dX7_readFall_46 rfl (kV0 fun gvy14 hvy14 => ?_)
      obtain rfl := hvy14
      refine z_iload_n C 0 dX7_readFall_49 rfl ?_
      exact z_iret C hr hlk dX7_readFall_50 (by decide) (by decide) ⟨2, rfl, rfl, rfl, by omega, rfl⟩
  · refine z_iconst (z := 1) C dX7_readFall_9 rfl ?_
    refine z_goto (tgt := 40) C dX7_readFall_10 (by decide) ?_
    refine z_istore_n (lv' := [(1, .int (zI (1))), (0, .ref (ad 2))]) C dX7_readFall_40 rfl (by decide) rfl ?_
    refine z_iload_n C 0 dX7_readFall_41 rfl ?_
    refine z_if_eq (tgt := 49) C dX7_readFall_42 (by decide) (by omega) (fun h => absurd h (by omega)) (fun _ => ?_)
    refine z_aload_n C 1 dX7_readFall_45 rfl ?_
    refine z_cV (As := []) (rest := []) (ci := 9) C (c_fTake l D A cs tt N ad _ (by omega) _ _ _ _ _ _ _ _ (by omega) hcdy1) (lt_K hN (rfl : Nat.blt (2) 952 = true)) hay2 hcdy1 rfl rfl mv_yX7_take q_813 hd_yX7_take (by decide) (Nat.le_of_ble_eq_true rfl) (by decide) dX7_readFall_46 rfl (kV0 fun gvy15 hvy15 => ?_)
    obtain rfl := hvy15
    refine z_iload_n C 0 dX7_readFall_49 rfl ?_
    exact z_iret C hr hlk dX7_readFall_50 (by decide) (by decide) ⟨1, rfl, rfl, rfl, by omega, rfl⟩
end
