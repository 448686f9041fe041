/-! houses in the order of their arrears; what the dogs let -/
theorem ah_iff {w : Nat → Int32} {j i : Nat} : S_ahead w j i = true ↔ (w (hx i 4)).toInt < (w (hx j 4)).toInt ∨ ((w (hx j 4)).toInt = (w (hx i 4)).toInt ∧ ((w (hx i 3)).toInt < (w (hx j 3)).toInt ∨ ((w (hx j 3)).toInt = (w (hx i 3)).toInt ∧ j < i))) := by
  unfold S_ahead
  rw [← Int32.lt_iff_toInt_lt, ← Int32.lt_iff_toInt_lt, Int32.toInt_inj, Int32.toInt_inj]
  by_cases h1 : w (hx j 4) = w (hx i 4)
  · rw [if_pos h1]
    by_cases h2 : w (hx j 3) = w (hx i 3)
    · rw [if_pos h2, h1, h2]
      simp [Int32.lt_irrefl]
    · rw [if_neg h2, h1]
      simp [Int32.lt_irrefl, h2]
  · rw [if_neg h1]
    simp [h1]
theorem ah_tr {w : Nat → Int32} {a b c : Nat} (h1 : S_ahead w a b = true) (h2 : S_ahead w b c = true) : S_ahead w a c = true := by
  rw [ah_iff] at *
  omega
theorem ah_ir {w : Nat → Int32} {a : Nat} : S_ahead w a a = false := by
  rw [Bool.eq_false_iff]
  intro h
  rw [ah_iff] at h
  omega
theorem ah_to {w : Nat → Int32} {a b : Nat} (h : ¬ a = b) (h1 : S_ahead w a b = false) : S_ahead w b a = true := by
  have h2 : ¬ S_ahead w a b = true := by rw [h1]; decide
  rw [ah_iff] at *
  omega
theorem ns_mono {f g : Nat → Nat} : ∀ n, (∀ j, j < n → f j ≤ g j) → ns f n ≤ ns g n
  | 0, _ => Nat.le_refl _
  | n + 1, h => by
    have := ns_mono n (fun j hj => h j (by omega))
    have := h n (by omega)
    rw [ns, ns]
    omega
theorem ns_lt {f g : Nat → Nat} {k : Nat} : ∀ n, (∀ j, j < n → f j ≤ g j) → k < n → f k < g k → ns f n < ns g n
  | 0, _, h, _ => absurd h (Nat.not_lt_zero _)
  | n + 1, h, hk, hl => by
    rw [ns, ns]
    have h9 := h n (by omega)
    by_cases e : k = n
    · subst e
      have := ns_mono (f := f) (g := g) k (fun j hj => h j (by omega))
      omega
    · have := ns_lt n (fun j hj => h j (by omega)) (show k < n by omega) hl
      omega
/-- how many of the first n stand ahead of i -/
def cnA (w : Nat → Int32) (n i : Nat) : Nat := ns (fun j => (S_ahead w j i).toNat) n
theorem tn_le {a b : Bool} (h : a = true → b = true) : a.toNat ≤ b.toNat := by
  cases a
  · exact Nat.zero_le _
  · rw [h rfl]
    exact Nat.le_refl _
theorem cnA_le {w : Nat → Int32} {n a b : Nat} (h : S_ahead w a b = true) : cnA w n a ≤ cnA w n b := ns_mono n (fun _ _ => tn_le (fun z => ah_tr z h))
theorem cnA_lt {w : Nat → Int32} {n a b : Nat} (ha : a < n) (h : S_ahead w a b = true) : cnA w n a < cnA w n b := by
  refine ns_lt n (fun _ _ => tn_le (fun z => ah_tr z h)) ha ?_
  show (S_ahead w a a).toNat < (S_ahead w a b).toNat
  rw [ah_ir, h]
  decide
theorem cnA_b {w : Nat → Int32} {i : Nat} : ∀ n, cnA w n i ≤ n
  | 0 => Nat.le_refl _
  | n + 1 => by
    have h1 := cnA_b (w := w) (i := i) n
    have h2 : (S_ahead w n i).toNat ≤ 1 := by cases S_ahead w n i <;> decide
    unfold cnA at *
    rw [ns]
    omega
theorem cnA_ex {w : Nat → Int32} : ∀ n k, k < n → ∃ i, i < n ∧ cnA w n i = k
  | 0, _, h => absurd h (Nat.not_lt_zero _)
  | n + 1, k, hk => by
    have es : ∀ i, cnA w (n + 1) i = cnA w n i + (S_ahead w n i).toNat := fun i => rfl
    rcases Nat.lt_trichotomy k (cnA w n n) with h | h | h
    · have hb := cnA_b (w := w) (i := n) n
      obtain ⟨i, hi, e⟩ := cnA_ex (w := w) n k (by omega)
      refine ⟨i, by omega, ?_⟩
      rw [es, e]
      cases q : S_ahead w n i with
      | false => rfl
      | true =>
        have := cnA_le (n := n) q
        omega
    · refine ⟨n, Nat.lt_succ_self n, ?_⟩
      rw [es, ah_ir, h]
      rfl
    · obtain ⟨i, hi, e⟩ := cnA_ex (w := w) n (k - 1) (by omega)
      refine ⟨i, by omega, ?_⟩
      rw [es, e]
      cases q : S_ahead w n i with
      | true =>
        show k - 1 + 1 = k
        omega
      | false =>
        have := cnA_lt (n := n) hi (ah_to (by omega) q)
        omega
theorem S_cnt_v {w : Nat → Int32} {nh i : Nat} : S_cnt w nh i = nI (cnA w nh i) := sm_ns nh (fun j _ => by cases S_ahead w j i <;> rfl)
theorem rk_sp {w : Nat → Int32} {nh : Nat} {x : Int32} : ∀ n i, (∃ j, i ≤ j ∧ j < i + n ∧ S_cnt w nh j = x) → ∃ j, i ≤ j ∧ j < i + n ∧ S_rk w nh x n i = nI j ∧ S_cnt w nh j = x
  | 0, i, h => by
    obtain ⟨j, h1, h2, -⟩ := h
    omega
  | n + 1, i, h => by
    obtain ⟨j, h1, h2, h3⟩ := h
    by_cases e : S_cnt w nh i = x
    · exact ⟨i, Nat.le_refl _, by omega, if_pos e, e⟩
    · have hj : ¬ j = i := fun z => e (z ▸ h3)
      obtain ⟨q, q1, q2, q3, q4⟩ := rk_sp n (i + 1) ⟨j, by omega, by omega, h3⟩
      exact ⟨q, by omega, by omega, (if_neg e).trans q3, q4⟩
theorem rk_ex {w : Nat → Int32} {nh k : Nat} (hn : nh ≤ 8) (hk : k < nh) : ∃ a, a < nh ∧ S_rk w nh (nI k) nh 0 = nI a ∧ cnA w nh a = k := by
  obtain ⟨i, hi, e⟩ := cnA_ex (w := w) nh k hk
  obtain ⟨a, -, h2, h3, h4⟩ := rk_sp (w := w) (nh := nh) (x := nI k) nh 0 ⟨i, Nat.zero_le _, by omega, by rw [S_cnt_v, e]⟩
  rw [S_cnt_v] at h4
  have := cnA_b (w := w) (i := a) nh
  exact ⟨a, by omega, h3, (nI_eq (by omega) (by omega)).mp h4⟩
theorem rk_two {w : Nat → Int32} {nh k a b : Nat} (ha : a < nh) (hb : b < nh) (ea : cnA w nh a = k - 1) (eb : cnA w nh b = k) (hk : 1 ≤ k) : S_ahead w a b = true := by
  cases q : S_ahead w a b with
  | true => rfl
  | false =>
    have hab : ¬ a = b := fun z => by
      subst z
      omega
    have := cnA_lt (n := nh) hb (ah_to hab q)
    omega
/-- how many sacks the dog lets: as many as one likes, none, or up to two -/
theorem lets_c {m nh nc : Nat} {w : Nat → Int32} (h : FS m nh nc w) {i : Nat} (hi : i < 8) : (S_lets w i = nI 99 ∧ (w (hx i 1) = nI 0 ∨ w (hx i 1) = nI 1 ∨ w (hx i 1) = nI 2)) ∨ (w (hx i 1) = nI 2 ∧ S_lets w i = nI 0) ∨ (w (hx i 1) = nI 1 ∧ (S_lets w i = nI 0 ∨ S_lets w i = nI 1 ∨ S_lets w i = nI 2)) := by
  have hd := h.wok.dog hi
  unfold S_lets
  by_cases c1 : w (hx i 1) = 0 ∨ ¬ w (hx i 7) = 0
  · rw [if_pos c1]
    exact Or.inl ⟨rfl, hd⟩
  · rw [if_neg c1]
    by_cases c2 : w (hx i 1) = 2
    · rw [if_pos c2]
      exact Or.inr (Or.inl ⟨c2, rfl⟩)
    · rw [if_neg c2]
      have h1 : w (hx i 1) = 1 := by
        rcases hd with d | d | d
        · exact absurd (Or.inl d) c1
        · exact d
        · exact absurd d c2
      refine Or.inr (Or.inr ⟨h1, ?_⟩)
      obtain ⟨a, e, z, k, x, y, p, q, c, j1, -, -, -, j3, j4, -⟩ := h.2.2.2.2
      obtain ⟨-, -, g3, g4, -⟩ := j1 i hi
      have hl := ns_le (f := e) (i := i) 8 hi
      rw [g3]
      by_cases z0 : z i = 0
      · rw [z0]
        exact Or.inr (Or.inr (by decide))
      · by_cases z1 : z i = 1
        · rw [z1]
          exact Or.inr (Or.inl (by decide))
        · refine Or.inl ?_
          by_cases z2 : z i = 2
          · rw [z2]
            decide
          · rw [if_neg]
            · rfl
            · intro hlt
              rw [Int32.lt_iff_toInt_lt, Int32.toInt_sub, nI_toInt (by omega)] at hlt
              have h0 : (0 : Int32).toInt = 0 := by decide
              have h2 : (2 : Int32).toInt = 2 := by decide
              rw [h0, h2, Int.bmod_def] at hlt
              split at hlt <;> omega
