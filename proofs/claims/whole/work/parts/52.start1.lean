/-! the law's start: where everything lies -/
/-- where a street's block begins -/
def sI (k : Nat) : Nat := if k = 0 then 1 else if k = 1 then 164 else 20 + 16 * (k - 2)
/-- the place of a thing: 0 the face, 1 .. 187 its parts, 188 the reference, 189 .. 196 its arrays, 197 and 198 the law's own -/
def ix (kd k i : Nat) : Nat := match kd with
  | 0 => 0
  | 1 => 1
  | 2 => 18
  | 3 => 19
  | 4 => 20
  | 5 => 1 + sI k
  | 6 => 1 + (sI k + 1)
  | 7 => 1 + (sI k + 2)
  | 8 => 1 + (sI k + 3)
  | 9 => 1 + (sI k + 4 + i)
  | 10 => 1 + (sI k + 12 + i)
  | 11 => 181
  | 12 => 182
  | 13 => 183
  | 14 => 184
  | 15 => 185
  | 16 => 186
  | 20 => 188
  | 21 => 189
  | 22 => 190
  | 23 => 191
  | 24 => 192
  | 25 => 193
  | 26 => 194
  | 27 => 195
  | 28 => 196
  | 30 => 197
  | 31 => 198
  | _ => 0
def ivb (k m : Nat) : Nat × Nat × Nat := if m = 0 then (5, k, 0) else if m = 1 then (6, k, 0) else if m = 2 then (7, k, 0) else if m = 3 then (8, k, 0) else if m < 12 then (9, k, m - 4) else (10, k, m - 12)
/-- back from a place -/
def iv (n : Nat) : Nat × Nat × Nat := if n = 0 then (0, 0, 0) else if n = 1 then (1, 0, 0) else if n < 18 then ivb 0 (n - 2) else if n = 18 then (2, 0, 0) else if n = 19 then (3, 0, 0) else if n = 20 then (4, 0, 0) else if n < 165 then ivb (2 + (n - 21) / 16) ((n - 21) % 16) else if n < 181 then ivb 1 (n - 165) else if n < 187 then (n - 170, 0, 0) else if n = 188 then (20, 0, 0) else if n < 197 then (n - 168, 0, 0) else if n = 197 then (30, 0, 0) else (31, 0, 0)
theorem vl_b {kd k i : Nat} (h : vl kd k i = true) : kd < 32 ∧ k < 11 ∧ i < 8 := by
  unfold vl at h
  split at h <;> first | (cases h; done) | skip
  all_goals simp only [Bool.and_eq_true, beq_iff_eq, decide_eq_true_eq] at h
  all_goals omega
theorem iv_ix : ∀ kd, kd < 32 → ∀ k, k < 11 → ∀ i, i < 8 → vl kd k i = true → iv (ix kd k i) = (kd, k, i) ∧ ix kd k i < 199 := by
  have h : (List.range 32).all (fun kd => (List.range 11).all (fun k => (List.range 8).all (fun i => !(vl kd k i) || (decide (iv (ix kd k i) = (kd, k, i)) && decide (ix kd k i < 199))))) = true := by decide +kernel
  intro kd h1 k h2 i h3 hv
  have a := List.all_eq_true.mp h kd (List.mem_range.mpr h1)
  have b := List.all_eq_true.mp a k (List.mem_range.mpr h2)
  have c := List.all_eq_true.mp b i (List.mem_range.mpr h3)
  rw [hv] at c
  simpa using c
theorem ix_inj {kd k i kd' k' i' : Nat} (h : vl kd k i = true) (h' : vl kd' k' i' = true) (e : ix kd k i = ix kd' k' i') : kd = kd' ∧ k = k' ∧ i = i' := by
  obtain ⟨a1, a2, a3⟩ := vl_b h
  obtain ⟨b1, b2, b3⟩ := vl_b h'
  have x := (iv_ix kd a1 k a2 i a3 h).1
  have y := (iv_ix kd' b1 k' b2 i' b3 h').1
  rw [e, y] at x
  cases x
  exact ⟨rfl, rfl, rfl⟩
def mA (b1 : Nat) (f : Nat → Nat) (b2 : Nat) (g : Nat → Nat) (l1 l2 n : Nat) : Nat := if n = 0 then b1 else if n < 188 then f (n - 1) else if n = 188 then b2 else if n < 197 then g (n - 189) else if n = 197 then l1 else l2
def atA (b1 : Nat) (f : Nat → Nat) (b2 : Nat) (g : Nat → Nat) (l1 l2 : Nat) : AT := fun kd k i => mA b1 f b2 g l1 l2 (ix kd k i)
/-- what the constructors tell of the addresses -/
def AdP (B b1 : Nat) (f : Nat → Nat) (b2 : Nat) (g : Nat → Nat) (l1 l2 : Nat) : Prop := (B ≤ b1 ∧ B ≤ b2 ∧ B ≤ l1 ∧ B ≤ l2) ∧ (∀ i, i < 187 → B ≤ f i ∧ ¬ f i = b1 ∧ ¬ f i = b2 ∧ ¬ f i = l1 ∧ ¬ f i = l2) ∧ (∀ i, i < 8 → B ≤ g i ∧ ¬ g i = b1 ∧ ¬ g i = b2 ∧ ¬ g i = l1 ∧ ¬ g i = l2) ∧ (∀ i j, i < 187 → j < 187 → f i = f j → i = j) ∧ (∀ i j, i < 8 → j < 8 → g i = g j → i = j) ∧ (∀ i j, i < 187 → j < 8 → ¬ f i = g j) ∧ ¬ b1 = b2 ∧ ¬ b1 = l1 ∧ ¬ b1 = l2 ∧ ¬ b2 = l1 ∧ ¬ b2 = l2 ∧ ¬ l1 = l2
theorem mA_inj {B b1 : Nat} {f : Nat → Nat} {b2 : Nat} {g : Nat → Nat} {l1 l2 : Nat} (h : AdP B b1 f b2 g l1 l2) {m n : Nat} (hm : m < 199) (hn : n < 199) (e : mA b1 f b2 g l1 l2 m = mA b1 f b2 g l1 l2 n) : m = n := by
  obtain ⟨-, h2, h3, h4, h5, h6, n1, n2, n3, n4, n5, n6⟩ := h
  have key : ∀ m n, m < n → n < 199 → ¬ mA b1 f b2 g l1 l2 m = mA b1 f b2 g l1 l2 n := by
    intro m n hmn hn e
    unfold mA at e
    by_cases m0 : m = 0
    · rw [if_pos m0, if_neg (by omega)] at e
      by_cases a1 : n < 188
      · rw [if_pos a1] at e
        exact (h2 (n - 1) (by omega)).2.1 e.symm
      · rw [if_neg a1] at e
        by_cases a2 : n = 188
        · rw [if_pos a2] at e
          exact n1 e
        · rw [if_neg a2] at e
          by_cases a3 : n < 197
          · rw [if_pos a3] at e
            exact (h3 (n - 189) (by omega)).2.1 e.symm
          · rw [if_neg a3] at e
            by_cases a4 : n = 197
            · rw [if_pos a4] at e
              exact n2 e
            · rw [if_neg a4] at e
              exact n3 e
    · rw [if_neg m0, if_neg (show ¬ n = 0 by omega)] at e
      by_cases m1 : m < 188
      · rw [if_pos m1] at e
        by_cases a1 : n < 188
        · rw [if_pos a1] at e
          have := h4 _ _ (by omega) (by omega) e
          omega
        · rw [if_neg a1] at e
          by_cases a2 : n = 188
          · rw [if_pos a2] at e
            exact (h2 (m - 1) (by omega)).2.2.1 e
          · rw [if_neg a2] at e
            by_cases a3 : n < 197
            · rw [if_pos a3] at e
              exact h6 _ _ (by omega) (by omega) e
            · rw [if_neg a3] at e
              by_cases a4 : n = 197
              · rw [if_pos a4] at e
                exact (h2 (m - 1) (by omega)).2.2.2.1 e
              · rw [if_neg a4] at e
                exact (h2 (m - 1) (by omega)).2.2.2.2 e
      · rw [if_neg m1, if_neg (show ¬ n < 188 by omega)] at e
        by_cases m2 : m = 188
        · rw [if_pos m2, if_neg (show ¬ n = 188 by omega)] at e
          by_cases a3 : n < 197
          · rw [if_pos a3] at e
            exact (h3 (n - 189) (by omega)).2.2.1 e.symm
          · rw [if_neg a3] at e
            by_cases a4 : n = 197
            · rw [if_pos a4] at e
              exact n4 e
            · rw [if_neg a4] at e
              exact n5 e
        · rw [if_neg m2, if_neg (show ¬ n = 188 by omega)] at e
          by_cases m3 : m < 197
          · rw [if_pos m3] at e
            by_cases a3 : n < 197
            · rw [if_pos a3] at e
              have := h5 _ _ (by omega) (by omega) e
              omega
            · rw [if_neg a3] at e
              by_cases a4 : n = 197
              · rw [if_pos a4] at e
                exact (h3 (m - 189) (by omega)).2.2.2.1 e
              · rw [if_neg a4] at e
                exact (h3 (m - 189) (by omega)).2.2.2.2 e
          · rw [if_neg m3, if_neg (show ¬ n < 197 by omega)] at e
            rw [if_pos (show m = 197 by omega), if_neg (show ¬ n = 197 by omega)] at e
            exact n6 e
  rcases Nat.lt_trichotomy m n with a | a | a
  · exact absurd e (key m n a hn)
  · exact a
  · exact absurd e.symm (key n m a hm)
theorem atA_ok {B b1 : Nat} {f : Nat → Nat} {b2 : Nat} {g : Nat → Nat} {l1 l2 : Nat} (h : AdP B b1 f b2 g l1 l2) : AOK B (atA b1 f b2 g l1 l2) := by
  refine ⟨fun kd k i kd' k' i' a b e => ?_, fun kd k i a => ?_⟩
  · obtain ⟨a1, a2, a3⟩ := vl_b a
    obtain ⟨b1', b2', b3'⟩ := vl_b b
    exact ix_inj a b (mA_inj h (iv_ix kd a1 k a2 i a3 a).2 (iv_ix kd' b1' k' b2' i' b3' b).2 e)
  · obtain ⟨a1, a2, a3⟩ := vl_b a
    have hx := (iv_ix kd a1 k a2 i a3 a).2
    obtain ⟨⟨q1, q2, q3, q4⟩, h2, h3, -⟩ := h
    show B ≤ mA b1 f b2 g l1 l2 (ix kd k i)
    generalize ix kd k i = n at hx
    unfold mA
    by_cases c0 : n = 0
    · rw [if_pos c0]
      exact q1
    · rw [if_neg c0]
      by_cases c1 : n < 188
      · rw [if_pos c1]
        exact (h2 _ (by omega)).1
      · rw [if_neg c1]
        by_cases c2 : n = 188
        · rw [if_pos c2]
          exact q2
        · rw [if_neg c2]
          by_cases c3 : n < 197
          · rw [if_pos c3]
            exact (h3 _ (by omega)).1
          · rw [if_neg c3]
            by_cases c4 : n = 197
            · rw [if_pos c4]
              exact q3
            · rw [if_neg c4]
              exact q4

