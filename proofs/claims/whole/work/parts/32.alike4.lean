/-! questions: class and reference answer alike -/
theorem R_reach_S {m : Nat} {w : Nat → Int32} (h : Wok m w) : R_reach w = S_reach w := by
  obtain ⟨_, nh, nc, pl, h1, hn, h2, hc, h3, hp⟩ := h
  unfold R_reach S_reach
  rw [h1, h3]
  have e : ¬ nI nh < nI pl := by
    rw [nI_ltI (by omega) (by omega)]
    omega
  rw [if_neg e]
theorem S_mn_assoc {a b c : Int32} : S_mn a (S_mn b c) = S_mn (S_mn a b) c := by
  unfold S_mn
  by_cases h1 : b < a <;> by_cases h2 : c < b <;> by_cases h3 : c < a <;> simp only [h1, h2, h3, if_true, if_false]
  · exfalso
    rw [Int32.lt_iff_toInt_lt] at h1 h2 h3
    omega
  · exfalso
    rw [Int32.lt_iff_toInt_lt] at h1 h2 h3
    omega
theorem R_may_S {w : Nat → Int32} {pl c : Nat} : R_may w pl c = S_may w pl c := by
  unfold R_may S_may
  simp only [S_mn_assoc]
theorem KR_may_K {w : Nat → Int32} {nc pl : Nat} {x : Int32} : KR_may w nc pl x = K_mayCarry w nc pl x := by
  unfold KR_may K_mayCarry
  rw [R_may_S]
theorem S_ahead_iff {w : Nat → Int32} {j i : Nat} : S_ahead w j i = true ↔ (w (hx i 4)).toInt < (w (hx j 4)).toInt ∨ ((w (hx i 4)).toInt = (w (hx j 4)).toInt ∧ ((w (hx i 3)).toInt < (w (hx j 3)).toInt ∨ ((w (hx i 3)).toInt = (w (hx j 3)).toInt ∧ j < i))) := by
  unfold S_ahead
  by_cases a : w (hx j 4) = w (hx i 4)
  · rw [if_pos a, a]
    by_cases b : w (hx j 3) = w (hx i 3)
    · rw [if_pos b, b, decide_eq_true_iff]
      omega
    · rw [if_neg b, decide_eq_true_iff, Int32.lt_iff_toInt_lt]
      have b2 : ¬ (w (hx j 3)).toInt = (w (hx i 3)).toInt := fun z => b (Int32.toInt_inj.mp z)
      omega
  · rw [if_neg a, decide_eq_true_iff, Int32.lt_iff_toInt_lt]
    have a2 : ¬ (w (hx j 4)).toInt = (w (hx i 4)).toInt := fun z => a (Int32.toInt_inj.mp z)
    omega
def cN (f : Nat → Bool) : Nat → Nat
  | 0 => 0
  | n + 1 => cN f n + (if f n = true then 1 else 0)
theorem cN_sm (f : Nat → Bool) : ∀ n, sm (fun j => bi (f j)) n = nI (cN f n)
  | 0 => rfl
  | n + 1 => by
    rw [sm, cN, cN_sm f n]
    cases h : f n
    · rw [if_neg (by decide), Nat.add_zero]
      exact Int32.add_zero _
    · rw [if_pos rfl, nI_succ]
      rfl
theorem cN_le (f : Nat → Bool) : ∀ n, cN f n ≤ n
  | 0 => Nat.le_refl _
  | n + 1 => by
    have := cN_le f n
    rw [cN]
    split <;> omega
theorem cN_mono {f g : Nat → Bool} (h : ∀ k, f k = true → g k = true) : ∀ n, cN f n ≤ cN g n
  | 0 => Nat.le_refl _
  | n + 1 => by
    have := cN_mono h n
    rw [cN, cN]
    by_cases z : f n = true
    · rw [if_pos z, if_pos (h n z)]
      omega
    · rw [if_neg z]
      omega
theorem cN_lt {f g : Nat → Bool} (h : ∀ k, f k = true → g k = true) {k : Nat} (h1 : g k = true) (h2 : ¬ f k = true) : ∀ n, k < n → cN f n < cN g n
  | 0, z => by omega
  | n + 1, z => by
    rw [cN, cN]
    by_cases e : n = k
    · rw [e, if_neg h2, if_pos h1]
      have := cN_mono h k
      omega
    · have := cN_lt h h1 h2 n (by omega)
      by_cases y : f n = true
      · rw [if_pos y, if_pos (h n y)]
        omega
      · rw [if_neg y]
        omega
theorem S_cnt_lt {w : Nat → Int32} {nh i j : Nat} (hi : i < nh) (h : S_ahead w i j = true) : cN (fun k => S_ahead w k i) nh < cN (fun k => S_ahead w k j) nh := by
  refine cN_lt (k := i) (fun k hk => ?_) h (fun z => ?_) nh hi
  · have a := S_ahead_iff.mp h
    have b := S_ahead_iff.mp hk
    refine S_ahead_iff.mpr ?_
    omega
  · have b := S_ahead_iff.mp z
    omega
theorem S_cnt_ne {w : Nat → Int32} {nh i j : Nat} (hn : nh ≤ 8) (hi : i < nh) (hj : j < nh) (h : S_cnt w nh i = S_cnt w nh j) : i = j := by
  have e : cN (fun k => S_ahead w k i) nh = cN (fun k => S_ahead w k j) nh := by
    unfold S_cnt at h
    rw [cN_sm, cN_sm] at h
    have q1 := cN_le (fun k => S_ahead w k i) nh
    have q2 := cN_le (fun k => S_ahead w k j) nh
    exact (nI_eq (by omega) (by omega)).mp h
  by_cases a : S_ahead w i j = true
  · have := S_cnt_lt hi a
    omega
  · by_cases b : S_ahead w j i = true
    · have := S_cnt_lt hj b
      omega
    · rw [S_ahead_iff] at a b
      omega
theorem S_rk_no {w : Nat → Int32} {nh : Nat} {x : Int32} : ∀ n i, (∀ k, i ≤ k → k < i + n → ¬ S_cnt w nh k = x) → S_rk w nh x n i = -1
  | 0, _, _ => rfl
  | n + 1, i, h => by
    rw [S_rk, if_neg (h i (Nat.le_refl _) (by omega))]
    exact S_rk_no n (i + 1) (fun k a b => h k (by omega) (by omega))
theorem S_rk_is {w : Nat → Int32} {nh : Nat} {x : Int32} {q : Nat} (e : S_cnt w nh q = x) : ∀ n i, i ≤ q → q < i + n → (∀ k, i ≤ k → k < q → ¬ S_cnt w nh k = x) → S_rk w nh x n i = nI q
  | 0, _, _, _, _ => by omega
  | n + 1, i, h1, h2, h => by
    rw [S_rk]
    by_cases z : i = q
    · rw [z, if_pos e]
    · rw [if_neg (h i (Nat.le_refl _) (by omega))]
      exact S_rk_is e n (i + 1) (by omega) (by omega) (fun k a b => h k (by omega) b)
theorem R_fd_no {w : Nat → Int32} {nh : Nat} {x : Int32} : ∀ i, (∀ k, k < i → ¬ S_cnt w nh k = x) → R_fd w nh x i = -1
  | 0, _ => rfl
  | i + 1, h => by
    rw [R_fd, if_neg (h i (by omega))]
    exact R_fd_no i (fun k a => h k (by omega))
theorem R_fd_is {w : Nat → Int32} {nh : Nat} {x : Int32} {q : Nat} (e : S_cnt w nh q = x) : ∀ i, q < i → (∀ k, q < k → k < i → ¬ S_cnt w nh k = x) → R_fd w nh x i = nI q
  | 0, h, _ => by omega
  | i + 1, h1, h => by
    rw [R_fd]
    by_cases z : i = q
    · rw [z, if_pos e]
    · rw [if_neg (h i (by omega) (by omega))]
      exact R_fd_is e i (by omega) (fun k a b => h k a (by omega))
theorem R_fd_S {w : Nat → Int32} {nh : Nat} (hn : nh ≤ 8) {x : Int32} : R_fd w nh x nh = S_rk w nh x nh 0 := by
  by_cases h : ∃ q, q < nh ∧ S_cnt w nh q = x
  · obtain ⟨q, h1, h2⟩ := h
    rw [R_fd_is h2 nh h1 (fun k a b z => absurd (S_cnt_ne hn b h1 (z.trans h2.symm)) (by omega)), S_rk_is h2 nh 0 (by omega) (by omega) (fun k a b z => absurd (S_cnt_ne hn (by omega) h1 (z.trans h2.symm)) (by omega))]
  · rw [R_fd_no nh (fun k a z => h ⟨k, a, z⟩), S_rk_no nh 0 (fun k a b z => h ⟨k, by omega, z⟩)]
theorem KR_ranked_K {w : Nat → Int32} {nh : Nat} (hn : nh ≤ 8) {x : Int32} : KR_ranked w nh x = K_ranked w nh x := by
  unfold KR_ranked K_ranked
  rw [R_fd_S hn]

