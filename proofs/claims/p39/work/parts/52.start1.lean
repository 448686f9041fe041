/-! the law's start: where everything lies -/
/-- where a street's block begins -/
def sI (k : Nat) : Nat := if k = 0 then 1 else if k = 1 then 164 else 20 + 16 * (k - 2)
/-- the place of a thing: 0 the face, 1 .. 187 its parts -/
def ix (kd k i : Nat) : Nat := match kd with
  | 0 => 0
  | 1 => 1
  | 2 => 18
  | 3 => 19
  | 4 => 20
  | 5 => 1 + sI k
  | 6 => 1 + (sI k + 1)
  | 7 => 1 + (sI k + 2)
  | 8 => 1 + (sI k + 3)
  | 9 => 1 + (sI k + 4 + i)
  | 10 => 1 + (sI k + 12 + i)
  | 11 => 181
  | 12 => 182
  | 13 => 183
  | 14 => 184
  | 15 => 185
  | 16 => 186
  | _ => 0
def ivb (k m : Nat) : Nat × Nat × Nat := if m = 0 then (5, k, 0) else if m = 1 then (6, k, 0) else if m = 2 then (7, k, 0) else if m = 3 then (8, k, 0) else if m < 12 then (9, k, m - 4) else (10, k, m - 12)
/-- back from a place -/
def iv (n : Nat) : Nat × Nat × Nat := if n = 0 then (0, 0, 0) else if n = 1 then (1, 0, 0) else if n < 18 then ivb 0 (n - 2) else if n = 18 then (2, 0, 0) else if n = 19 then (3, 0, 0) else if n = 20 then (4, 0, 0) else if n < 165 then ivb (2 + (n - 21) / 16) ((n - 21) % 16) else if n < 181 then ivb 1 (n - 165) else (n - 170, 0, 0)
theorem vl_b {kd k i : Nat} (h : vl kd k i = true) : kd < 17 ∧ k < 11 ∧ i < 8 := by
  unfold vl at h
  split at h <;> first | (cases h; done) | skip
  all_goals simp only [Bool.and_eq_true, beq_iff_eq, decide_eq_true_eq] at h
  all_goals omega
theorem iv_ix : ∀ kd, kd < 17 → ∀ k, k < 11 → ∀ i, i < 8 → vl kd k i = true → iv (ix kd k i) = (kd, k, i) ∧ ix kd k i < 187 := by
  have h : (List.range 17).all (fun kd => (List.range 11).all (fun k => (List.range 8).all (fun i => !(vl kd k i) || (decide (iv (ix kd k i) = (kd, k, i)) && decide (ix kd k i < 187))))) = true := by decide +kernel
  intro kd h1 k h2 i h3 hv
  have a := List.all_eq_true.mp h kd (List.mem_range.mpr h1)
  have b := List.all_eq_true.mp a k (List.mem_range.mpr h2)
  have c := List.all_eq_true.mp b i (List.mem_range.mpr h3)
  rw [hv] at c
  simpa using c
theorem ix_inj {kd k i kd' k' i' : Nat} (h : vl kd k i = true) (h' : vl kd' k' i' = true) (e : ix kd k i = ix kd' k' i') : kd = kd' ∧ k = k' ∧ i = i' := by
  obtain ⟨a1, a2, a3⟩ := vl_b h
  obtain ⟨b1, b2, b3⟩ := vl_b h'
  have x := (iv_ix kd a1 k a2 i a3 h).1
  have y := (iv_ix kd' b1 k' b2 i' b3 h').1
  rw [e, y] at x
  cases x
  exact ⟨rfl, rfl, rfl⟩
def mA (b1 : Nat) (f : Nat → Nat) (n : Nat) : Nat := if n = 0 then b1 else f (n - 1)
def atA (b1 : Nat) (f : Nat → Nat) : AT := fun kd k i => mA b1 f (ix kd k i)
/-- what the constructors tell of the addresses -/
def AdP (B b1 : Nat) (f : Nat → Nat) : Prop := B ≤ b1 ∧ (∀ i, i < 187 → B ≤ f i ∧ ¬ f i = b1) ∧ ∀ i j, i < 187 → j < 187 → f i = f j → i = j
theorem mA_inj {B b1 : Nat} {f : Nat → Nat} (h : AdP B b1 f) {m n : Nat} (hm : m < 188) (hn : n < 188) (e : mA b1 f m = mA b1 f n) : m = n := by
  obtain ⟨-, h2, h4⟩ := h
  unfold mA at e
  by_cases m0 : m = 0
  · by_cases n0 : n = 0
    · rw [m0, n0]
    · rw [if_pos m0, if_neg n0] at e
      exact absurd e.symm (h2 (n - 1) (by omega)).2
  · by_cases n0 : n = 0
    · rw [if_neg m0, if_pos n0] at e
      exact absurd e (h2 (m - 1) (by omega)).2
    · rw [if_neg m0, if_neg n0] at e
      have := h4 _ _ (by omega) (by omega) e
      omega
theorem atA_ok {B b1 : Nat} {f : Nat → Nat} (h : AdP B b1 f) : AOK B (atA b1 f) := by
  refine ⟨fun kd k i kd' k' i' a b e => ?_, fun kd k i a => ?_⟩
  · obtain ⟨a1, a2, a3⟩ := vl_b a
    obtain ⟨b1', b2', b3'⟩ := vl_b b
    have x := (iv_ix kd a1 k a2 i a3 a).2
    have y := (iv_ix kd' b1' k' b2' i' b3' b).2
    exact ix_inj a b (mA_inj h (by omega) (by omega) e)
  · obtain ⟨a1, a2, a3⟩ := vl_b a
    have hx := (iv_ix kd a1 k a2 i a3 a).2
    obtain ⟨q1, h2, -⟩ := h
    show B ≤ mA b1 f (ix kd k i)
    generalize ix kd k i = n at hx
    unfold mA
    by_cases c0 : n = 0
    · rw [if_pos c0]
      exact q1
    · rw [if_neg c0]
      exact (h2 _ (by omega)).1
