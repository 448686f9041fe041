/-! what holds between two calls: the class's side, the reference's side, the numbers' bounds -/
/-- a street within its bounds; a bone only where a dog lives -/
def Ow (m : Nat) (w : Nat → Int32) : Prop := Wb m w ∧ ∃ nh nc pl, (w 1 = nI nh ∧ nh ≤ 8) ∧ (w 2 = nI nc ∧ nc ≤ 4) ∧ (w 3 = nI pl ∧ pl ≤ nh) ∧ Bd nh w
theorem Ow.mono {m n : Nat} {w : Nat → Int32} (h : Ow m w) (hmn : m ≤ n) : Ow n w := ⟨h.1.mono hmn, h.2⟩
theorem Ow.wok {m : Nat} {w : Nat → Int32} (h : Ow m w) : Wok m w := by
  obtain ⟨h1, nh, nc, pl, ⟨a1, a2⟩, ⟨b1, b2⟩, ⟨c1, c2⟩, -⟩ := h
  exact ⟨h1, nh, nc, pl, a1, a2, b1, b2, c1, c2⟩
/-- behind its numbers a row is 0; a bone is there or not -/
def Bo (w : Nat → Int32) : Prop := (∀ j, 102 ≤ j → w j = 0) ∧ ∀ i, i < 8 → w (hx i 7) = 0 ∨ w (hx i 7) = 1
theorem Ow.bo {m : Nat} {w : Nat → Int32} (h : Ow m w) : Bo w := ⟨fun _ hj => h.1.z hj, fun _ hi => h.wok.bon hi⟩
abbrev HF : Type := Nat → Nat → Int32
abbrev RT : Type := Int32 × Int32 × Int32
/-- a street more in the history -/
def hPush (cn : Nat) (h : HF) (w : Nat → Int32) : HF := fun i => if cn = 8 then (if i < 7 then h (i + 1) else w) else if i = cn then w else h i
theorem upN_le {cn : Nat} (h : cn ≤ 8) : upN cn ≤ 8 := by
  unfold upN
  split <;> omega
/-- the class: street, history, snapshot, reason, text, fault -/
def CK (σ : Sg) (nx : Nat) (w : Nat → Int32) (cn : Nat) (h : HF) (sf : Int32) (sv : Nat → Int32) (rr : RT) (tl : Nat) (tx : Nat → Int32) (ft : Int32) : Prop :=
  σ.1 5 0 = w ∧ (σ.1 3 0 0 = nI nx ∧ nx < 9 ∧ σ.1 3 0 1 = nI cn ∧ cn ≤ 8) ∧ (∀ i, i < cn → σ.1 5 (2 + (nx + 9 - cn + i) % 9) = h i) ∧ (∀ k, k < 11 → Bo (σ.1 5 k)) ∧ (σ.1 0 0 0 = sf ∧ (¬ sf = 0 → σ.1 5 1 = sv)) ∧ (σ.1 2 0 0 = rr.1 ∧ σ.1 2 0 1 = rr.2.1 ∧ σ.1 2 0 2 = rr.2.2) ∧ (σ.1 11 0 0 = nI tl ∧ ∀ j, j < tl → σ.1 12 0 j = tx j) ∧ σ.1 0 0 1 = ft
/-- the reference: the same, and its line -/
def RK (σ : Sg) (w : Nat → Int32) (cn : Nat) (h : HF) (sf : Int32) (sv : Nat → Int32) (rr : RT) (tl : Nat) (tx : Nat → Int32) (ft : Int32) (T : List Nat) : Prop :=
  σ.1 21 0 = w ∧ ((∀ j, 102 ≤ j → σ.1 22 0 j = 0) ∧ ∀ j, 102 ≤ j → σ.1 23 0 j = 0) ∧ (σ.1 20 0 5 = nI cn ∧ cn ≤ 8 ∧ ∀ i j, i < cn → j < 102 → σ.1 24 0 (i * 102 + j) = h i j) ∧ (σ.1 20 0 4 = sf ∧ (¬ sf = 0 → σ.1 23 0 = sv)) ∧ (σ.1 20 0 7 = rr.1 ∧ σ.1 20 0 8 = rr.2.1 ∧ σ.1 20 0 9 = rr.2.2) ∧ (σ.1 20 0 11 = nI tl ∧ ∀ j, j < tl → σ.1 25 0 j = tx j) ∧ σ.1 20 0 12 = ft ∧ (σ.1 20 0 14 = nI T.length ∧ ∀ i, i < T.length → σ.1 26 0 i = nI (T.getD i 0))
/-- the numbers' bounds -/
def MK (m : Nat) (w : Nat → Int32) (cn : Nat) (h : HF) (sf : Int32) (sv : Nat → Int32) (tl : Nat) (tx : Nat → Int32) (T : List Nat) : Prop :=
  Ow m w ∧ (∀ i, i < cn → Ow m (h i)) ∧ (sf = 0 ∨ (sf = 1 ∧ Ow m sv)) ∧ (tl ≤ 60 ∧ ∀ j, j < tl → ∃ ch, ch < 65536 ∧ tx j = nI ch) ∧ T.length ≤ 34 ∧ ∀ i, i < T.length → T.getD i 0 < 128
theorem CK.cg {σ τ : Sg} {nx cn tl : Nat} {w sv tx : Nat → Int32} {h : HF} {sf ft : Int32} {rr : RT} (q : CK σ nx w cn h sf sv rr tl tx ft) (e : ∀ a, a < 16 → τ.1 a = σ.1 a) : CK τ nx w cn h sf sv rr tl tx ft := by
  unfold CK at q ⊢
  rw [e 5 (by decide), e 3 (by decide), e 0 (by decide), e 2 (by decide), e 11 (by decide), e 12 (by decide)]
  exact q
theorem RK.cg {σ τ : Sg} {cn tl : Nat} {w sv tx : Nat → Int32} {h : HF} {sf ft : Int32} {rr : RT} {T : List Nat} (q : RK σ w cn h sf sv rr tl tx ft T) (e : ∀ a, 20 ≤ a → τ.1 a = σ.1 a) : RK τ w cn h sf sv rr tl tx ft T := by
  unfold RK at q ⊢
  rw [e 20 (by decide), e 21 (by decide), e 22 (by decide), e 23 (by decide), e 24 (by decide), e 25 (by decide), e 26 (by decide)]
  exact q
theorem SBok.cg {A : AT} {σ τ : Sg} {L : List Nat} (h : SBok A σ L) (e : τ.1 16 = σ.1 16) (e2 : τ.2.2.2 = σ.2.2.2) : SBok A τ L := by
  unfold SBok at h ⊢
  rw [e, e2]
  exact h
theorem MK.mono {m n cn tl : Nat} {w sv tx : Nat → Int32} {h : HF} {sf : Int32} {T : List Nat} (q : MK m w cn h sf sv tl tx T) (hmn : m ≤ n) : MK n w cn h sf sv tl tx T :=
  ⟨q.1.mono hmn, fun i hi => (q.2.1 i hi).mono hmn, q.2.2.1.imp id (fun z => ⟨z.1, z.2.mono hmn⟩), q.2.2.2⟩
theorem MK.push {m n cn tl : Nat} {w w' sv tx : Nat → Int32} {h : HF} {sf : Int32} {T : List Nat} (q : MK m w cn h sf sv tl tx T) (hc : cn ≤ 8) (hmn : m ≤ n) (hw : Ow n w') : MK n w' (upN cn) (hPush cn h w) sf sv tl tx T := by
  refine ⟨hw, fun i hi => ?_, (q.mono hmn).2.2⟩
  unfold hPush
  unfold upN at hi
  split
  · split
    · exact (q.2.1 _ (by split at hi <;> omega)).mono hmn
    · exact q.1.mono hmn
  · split
    · exact q.1.mono hmn
    · exact (q.2.1 _ (by split at hi <;> omega)).mono hmn
/-- a street that is copied whole -/
theorem cpw {σ : Sg} {k k' : Nat} (h1 : Bo (σ.1 5 k)) (h2 : Bo (σ.1 5 k')) : (cp σ k k' (fun j => decide (j < 102))).1 5 k = σ.1 5 k' := by
  funext j
  unfold cp
  dsimp only
  by_cases hj : j < 102
  · rw [if_pos ⟨rfl, rfl, by simpa using hj⟩]
  · rw [if_neg (fun z => hj (by simpa using z.2.2)), h1.1 j (by omega), h2.1 j (by omega)]
theorem cpo {σ : Sg} {k k' i : Nat} {P : Nat → Bool} (h : ¬ i = k) : (cp σ k k' P).1 5 i = σ.1 5 i := by
  funext j
  unfold cp
  dsimp only
  rw [if_neg (fun z => h z.2.1)]
theorem cpa {σ : Sg} {k k' a : Nat} {P : Nat → Bool} (h : ¬ a = 5) : (cp σ k k' P).1 a = σ.1 a := by
  funext i j
  unfold cp
  dsimp only
  rw [if_neg (fun z => h z.1)]
theorem w3a {σ : Sg} {a b c a' : Nat} {x : Int32} (h : ¬ a' = a) : (w3 σ a b c x).1 a' = σ.1 a' := funext fun _ => funext fun _ => w3_ne (fun z => h z.1)
theorem w3v {σ : Sg} {a b c : Nat} {x : Int32} {j : Nat} : (w3 σ a b c x).1 a b j = if j = c then x else σ.1 a b j := by
  unfold w3
  dsimp only
  by_cases h : j = c
  · rw [if_pos ⟨rfl, rfl, h⟩, if_pos h]
  · rw [if_neg (fun z => h z.2.2), if_neg h]
theorem rowa {σ : Sg} {a b a' : Nat} {u : Nat → Int32} (h : ¬ a' = a) : (row σ a b u).1 a' = σ.1 a' := funext fun _ => row_ne (fun z => h z.1)
theorem rowo {σ : Sg} {a b b' : Nat} {u : Nat → Int32} (h : ¬ b' = b) : (row σ a b u).1 a b' = σ.1 a b' := row_ne (fun z => h z.2)
/-- the class: a change went through -/
theorem CK.push {σ : Sg} {nx cn tl : Nat} {w w' sv tx : Nat → Int32} {h : HF} {sf ft : Int32} {rr : RT} (q : CK σ nx w cn h sf sv rr tl tx ft) (hw : Bo w') : CK (kpN (row (ntd σ nx) 5 0 w') nx cn) ((nx + 1) % 9) w' (upN cn) (hPush cn h w) sf sv rr tl tx ft := by
  obtain ⟨h1, ⟨h2, h3, h4, h5⟩, h6, h7, ⟨h8, h9⟩, hr, ht, hf⟩ := q
  have ea : ∀ a, ¬ a = 5 → ¬ a = 3 → (kpN (row (ntd σ nx) 5 0 w') nx cn).1 a = σ.1 a := fun a n5 n3 => by
    unfold kpN ntd
    rw [w3a n3, w3a n3, rowa n5, cpa n5]
  have e5 : (kpN (row (ntd σ nx) 5 0 w') nx cn).1 5 = (row (ntd σ nx) 5 0 w').1 5 := by
    unfold kpN
    rw [w3a (by decide), w3a (by decide)]
  have e0 : (kpN (row (ntd σ nx) 5 0 w') nx cn).1 5 0 = w' := by rw [e5, row_at]
  have ex : (kpN (row (ntd σ nx) 5 0 w') nx cn).1 5 (2 + nx) = w := by
    rw [e5, rowo (by omega)]
    unfold ntd
    rw [cpw (h7 _ (by omega)) (h7 0 (by decide)), h1]
  have eo : ∀ k, ¬ k = 0 → ¬ k = 2 + nx → (kpN (row (ntd σ nx) 5 0 w') nx cn).1 5 k = σ.1 5 k := fun k n0 n1 => by
    rw [e5, rowo n0]
    unfold ntd
    rw [cpo n1]
  refine ⟨e0, ⟨?_, by omega, ?_, upN_le h5⟩, fun i hi => ?_, fun k hk => ?_, ⟨?_, fun z => ?_⟩, ?_, ?_, ?_⟩
  · unfold kpN
    rw [w3_ne (by omega), w3_eq]
  · unfold kpN upN
    rw [w3_eq]
    by_cases c8 : cn = 8
    · rw [c8]
      rfl
    · rw [if_neg c8]
      split
      · rfl
      · exact congrArg nI (by omega)
  · unfold upN at hi ⊢
    unfold hPush
    by_cases c8 : cn = 8
    · rw [if_pos c8] at hi ⊢
      rw [if_pos c8]
      by_cases i7 : i < 7
      · rw [if_pos i7, eo _ (by omega) (by omega), ← h6 (i + 1) (by omega), c8]
        exact congrArg (σ.1 5) (by omega)
      · rw [if_neg i7, ← ex]
        exact congrArg ((kpN (row (ntd σ nx) 5 0 w') nx cn).1 5) (by omega)
    · rw [if_neg c8] at hi ⊢
      rw [if_neg c8]
      by_cases ic : i = cn
      · rw [if_pos ic, ← ex]
        exact congrArg ((kpN (row (ntd σ nx) 5 0 w') nx cn).1 5) (by omega)
      · rw [if_neg ic, eo _ (by omega) (by omega), ← h6 i (by omega)]
        exact congrArg (σ.1 5) (by omega)
  · by_cases k0 : k = 0
    · rw [k0, e0]
      exact hw
    · by_cases k2 : k = 2 + nx
      · rw [k2, ex, ← h1]
        exact h7 0 (by decide)
      · rw [eo k k0 k2]
        exact h7 k hk
  · rw [ea 0 (by decide) (by decide)]
    exact h8
  · rw [eo 1 (by decide) (by omega)]
    exact h9 z
  · rw [ea 2 (by decide) (by decide)]
    exact hr
  · rw [ea 11 (by decide) (by decide), ea 12 (by decide) (by decide)]
    exact ht
  · rw [ea 0 (by decide) (by decide)]
    exact hf
/-- the class: a street was noted, nothing else -/
theorem CK.noted {σ : Sg} {nx cn tl : Nat} {w sv tx : Nat → Int32} {h : HF} {sf ft : Int32} {rr : RT} (q : CK σ nx w cn h sf sv rr tl tx ft) : CK (ntd σ nx) nx w cn h sf sv rr tl tx ft := by
  obtain ⟨h1, ⟨h2, h3, h4, h5⟩, h6, h7, ⟨h8, h9⟩, hr, ht, hf⟩ := q
  have ea : ∀ a, ¬ a = 5 → (ntd σ nx).1 a = σ.1 a := fun a n5 => cpa n5
  have ex : (ntd σ nx).1 5 (2 + nx) = w := by
    unfold ntd
    rw [cpw (h7 _ (by omega)) (h7 0 (by decide)), h1]
  have eo : ∀ k, ¬ k = 2 + nx → (ntd σ nx).1 5 k = σ.1 5 k := fun k n1 => cpo n1
  refine ⟨(eo 0 (by omega)).trans h1, ⟨by rw [ea 3 (by decide)]; exact h2, h3, by rw [ea 3 (by decide)]; exact h4, h5⟩, fun i hi => ?_, fun k hk => ?_, ⟨by rw [ea 0 (by decide)]; exact h8, fun z => ?_⟩, by rw [ea 2 (by decide)]; exact hr, by rw [ea 11 (by decide), ea 12 (by decide)]; exact ht, by rw [ea 0 (by decide)]; exact hf⟩
  · rw [eo _ (by omega)]
    exact h6 i hi
  · by_cases k2 : k = 2 + nx
    · rw [k2, ex, ← h1]
      exact h7 0 (by decide)
    · rw [eo k k2]
      exact h7 k hk
  · rw [eo 1 (by omega)]
    exact h9 z
/-- the class: a reason is kept -/
theorem CK.why {σ : Sg} {nx cn tl : Nat} {w sv tx : Nat → Int32} {h : HF} {sf ft a b : Int32} {rr : RT} (q : CK σ nx w cn h sf sv rr tl tx ft) : CK (rfz σ a b) nx w cn h sf sv (a, b, 0) tl tx ft := by
  have ea : ∀ c, ¬ c = 2 → (rfz σ a b).1 c = σ.1 c := fun c n => by
    unfold rfz
    rw [w3a n, w3a n, w3a n]
  obtain ⟨h1, h2, h6, h7, h8, hr, ht, hf⟩ := q
  unfold CK
  rw [ea 5 (by decide), ea 3 (by decide), ea 0 (by decide), ea 11 (by decide), ea 12 (by decide)]
  refine ⟨h1, h2, h6, h7, h8, ⟨?_, ?_, ?_⟩, ht, hf⟩
  · unfold rfz
    rw [w3_ne (by omega), w3_ne (by omega), w3_eq]
  · unfold rfz
    rw [w3_ne (by omega), w3_eq]
  · unfold rfz
    rw [w3_eq]
/-- the class: the reason's third number -/
theorem CK.third {σ : Sg} {nx cn tl : Nat} {w sv tx : Nat → Int32} {h : HF} {sf ft a b c x : Int32} (q : CK σ nx w cn h sf sv (a, b, c) tl tx ft) : CK (w3 σ 2 0 2 x) nx w cn h sf sv (a, b, x) tl tx ft := by
  obtain ⟨h1, h2, h6, h7, h8, ⟨r1, r2, r3⟩, ht, hf⟩ := q
  unfold CK
  have ea : ∀ a9, ¬ a9 = 2 → (w3 σ 2 0 2 x).1 a9 = σ.1 a9 := fun a9 n => w3a n
  rw [ea 5 (by decide), ea 3 (by decide), ea 0 (by decide), ea 11 (by decide), ea 12 (by decide)]
  exact ⟨h1, h2, h6, h7, h8, ⟨(w3_ne (by omega)).trans r1, (w3_ne (by omega)).trans r2, w3_eq _ _ _ _ _⟩, ht, hf⟩
/-- the class: its text and the fault's place -/
theorem CK.text {σ τ : Sg} {nx cn tl : Nat} {w sv tx : Nat → Int32} {h : HF} {sf ft x : Int32} {rr : RT} (q : CK σ nx w cn h sf sv rr tl tx ft) (hT : TxS σ τ) : CK (cmT τ x) nx w cn h sf sv rr 0 tx x := by
  obtain ⟨h1, h2, h6, h7, h8, hr, ht, hf⟩ := q
  have ea : ∀ a, ¬ a = 0 → ¬ a = 11 → ¬ a = 13 → ¬ a = 14 → ¬ a = 15 → (cmT τ x).1 a = σ.1 a := fun a n0 n1 n3 n4 n5 => (cmT_a n0 n1).trans (hT.1 a n1 n3 n4 n5)
  have e00 : (cmT τ x).1 0 0 0 = σ.1 0 0 0 := by
    unfold cmT
    rw [w3_ne (by omega), w3_ne (by omega), hT.1 0 (by decide) (by decide) (by decide) (by decide)]
  unfold CK
  rw [ea 5 (by decide) (by decide) (by decide) (by decide) (by decide), ea 3 (by decide) (by decide) (by decide) (by decide) (by decide), ea 2 (by decide) (by decide) (by decide) (by decide) (by decide), ea 12 (by decide) (by decide) (by decide) (by decide) (by decide), e00]
  refine ⟨h1, h2, h6, h7, h8, hr, ⟨?_, fun j hj => by omega⟩, ?_⟩
  · unfold cmT
    exact w3_eq _ _ _ _ _
  · unfold cmT
    rw [w3_ne (by omega), w3_eq]
/-- the class: a character more -/
theorem CK.app {σ : Sg} {nx cn tl : Nat} {w sv tx : Nat → Int32} {h : HF} {sf ft x : Int32} {rr : RT} (q : CK σ nx w cn h sf sv rr tl tx ft) : CK (w3 (w3 σ 12 0 tl x) 11 0 0 (nI (tl + 1))) nx w cn h sf sv rr (tl + 1) (up tx tl x) ft := by
  obtain ⟨h1, h2, h6, h7, h8, hr, ⟨t1, t2⟩, hf⟩ := q
  have ea : ∀ a, ¬ a = 12 → ¬ a = 11 → (w3 (w3 σ 12 0 tl x) 11 0 0 (nI (tl + 1))).1 a = σ.1 a := fun a n0 n1 => (w3a n1).trans (w3a n0)
  unfold CK
  rw [ea 5 (by decide) (by decide), ea 3 (by decide) (by decide), ea 0 (by decide) (by decide), ea 2 (by decide) (by decide)]
  refine ⟨h1, h2, h6, h7, h8, hr, ⟨w3_eq _ _ _ _ _, fun j hj => ?_⟩, hf⟩
  rw [w3a (by decide), w3v]
  unfold up
  by_cases e : j = tl
  · rw [if_pos e, if_pos e]
  · rw [if_neg e, if_neg e]
    exact t2 j (by omega)
/-- the class: the latest change is undone -/
theorem CK.undo {σ : Sg} {nx cn tl : Nat} {w sv tx : Nat → Int32} {h : HF} {sf ft : Int32} {rr : RT} (q : CK σ nx w cn h sf sv rr tl tx ft) (hc : 1 ≤ cn) : CK (undS σ nx cn) ((nx + 8) % 9) (h (cn - 1)) (cn - 1) h sf sv rr tl tx ft := by
  obtain ⟨h1, ⟨h2, h3, h4, h5⟩, h6, h7, ⟨h8, h9⟩, hr, ht, hf⟩ := q
  have e5 : (w3 (w3 σ 3 0 0 (nI ((nx + 8) % 9))) 3 0 1 (nI (cn - 1))).1 5 = σ.1 5 := (w3a (by decide)).trans (w3a (by decide))
  have ea : ∀ a, ¬ a = 5 → ¬ a = 3 → (undS σ nx cn).1 a = σ.1 a := fun a n5 n3 => (cpa n5).trans ((w3a n3).trans (w3a n3))
  have e3 : (undS σ nx cn).1 3 = (w3 (w3 σ 3 0 0 (nI ((nx + 8) % 9))) 3 0 1 (nI (cn - 1))).1 3 := cpa (by decide)
  have e0 : (undS σ nx cn).1 5 0 = h (cn - 1) := by
    unfold undS
    rw [cpw (by rw [e5]; exact h7 0 (by decide)) (by rw [e5]; exact h7 _ (by omega)), e5, ← h6 (cn - 1) (by omega)]
    exact congrArg (σ.1 5) (by omega)
  have eo : ∀ k, ¬ k = 0 → (undS σ nx cn).1 5 k = σ.1 5 k := fun k n0 => (cpo n0).trans (congrFun e5 k)
  refine ⟨e0, ⟨?_, by omega, ?_, by omega⟩, fun i hi => ?_, fun k hk => ?_, ⟨?_, fun z => ?_⟩, ?_, ?_, ?_⟩
  · rw [e3, w3_ne (by omega), w3_eq]
  · rw [e3, w3_eq]
  · rw [eo _ (by omega), ← h6 i (by omega)]
    exact congrArg (σ.1 5) (by omega)
  · by_cases k0 : k = 0
    · rw [k0, e0, ← h6 (cn - 1) (by omega)]
      exact h7 _ (by omega)
    · rw [eo k k0]
      exact h7 k hk
  · rw [ea 0 (by decide) (by decide)]
    exact h8
  · rw [eo 1 (by decide)]
    exact h9 z
  · rw [ea 2 (by decide) (by decide)]
    exact hr
  · rw [ea 11 (by decide) (by decide), ea 12 (by decide) (by decide)]
    exact ht
  · rw [ea 0 (by decide) (by decide)]
    exact hf
/-- the class: a snapshot -/
theorem CK.save {σ : Sg} {nx cn tl : Nat} {w sv tx : Nat → Int32} {h : HF} {sf ft : Int32} {rr : RT} (q : CK σ nx w cn h sf sv rr tl tx ft) : CK (w3 (cp σ 1 0 (fun j => decide (j < 102))) 0 0 0 1) nx w cn h 1 w rr tl tx ft := by
  obtain ⟨h1, ⟨h2, h3, h4, h5⟩, h6, h7, ⟨h8, h9⟩, hr, ht, hf⟩ := q
  have ea : ∀ a, ¬ a = 5 → ¬ a = 0 → (w3 (cp σ 1 0 (fun j => decide (j < 102))) 0 0 0 1).1 a = σ.1 a := fun a n5 n0 => (w3a n0).trans (cpa n5)
  have e5 : (w3 (cp σ 1 0 (fun j => decide (j < 102))) 0 0 0 1).1 5 = (cp σ 1 0 (fun j => decide (j < 102))).1 5 := w3a (by decide)
  have e1 : (w3 (cp σ 1 0 (fun j => decide (j < 102))) 0 0 0 1).1 5 1 = w := by rw [e5, cpw (h7 1 (by decide)) (h7 0 (by decide)), h1]
  have eo : ∀ k, ¬ k = 1 → (w3 (cp σ 1 0 (fun j => decide (j < 102))) 0 0 0 1).1 5 k = σ.1 5 k := fun k n0 => (congrFun e5 k).trans (cpo n0)
  refine ⟨(eo 0 (by decide)).trans h1, ⟨by rw [ea 3 (by decide) (by decide)]; exact h2, h3, by rw [ea 3 (by decide) (by decide)]; exact h4, h5⟩, fun i hi => ?_, fun k hk => ?_, ⟨w3_eq _ _ _ _ _, fun _ => e1⟩, by rw [ea 2 (by decide) (by decide)]; exact hr, by rw [ea 11 (by decide) (by decide), ea 12 (by decide) (by decide)]; exact ht, ?_⟩
  · rw [eo _ (by omega)]
    exact h6 i hi
  · by_cases k1 : k = 1
    · rw [k1, e1, ← h1]
      exact h7 0 (by decide)
    · rw [eo k k1]
      exact h7 k hk
  · rw [w3_ne (by omega), cpa (by decide)]
    exact hf
/-- the class: the snapshot comes back -/
theorem CK.rest {σ : Sg} {nx cn tl : Nat} {w sv tx : Nat → Int32} {h : HF} {sf ft : Int32} {rr : RT} (q : CK σ nx w cn h sf sv rr tl tx ft) (hs : ¬ sf = 0) : CK (w3 (cp σ 0 1 (fun j => decide (j < 102))) 3 0 1 0) nx sv 0 h sf sv rr tl tx ft := by
  obtain ⟨h1, ⟨h2, h3, h4, h5⟩, h6, h7, ⟨h8, h9⟩, hr, ht, hf⟩ := q
  have ea : ∀ a, ¬ a = 5 → ¬ a = 3 → (w3 (cp σ 0 1 (fun j => decide (j < 102))) 3 0 1 0).1 a = σ.1 a := fun a n5 n3 => (w3a n3).trans (cpa n5)
  have e5 : (w3 (cp σ 0 1 (fun j => decide (j < 102))) 3 0 1 0).1 5 = (cp σ 0 1 (fun j => decide (j < 102))).1 5 := w3a (by decide)
  have e0 : (w3 (cp σ 0 1 (fun j => decide (j < 102))) 3 0 1 0).1 5 0 = sv := by rw [e5, cpw (h7 0 (by decide)) (h7 1 (by decide)), h9 hs]
  have eo : ∀ k, ¬ k = 0 → (w3 (cp σ 0 1 (fun j => decide (j < 102))) 3 0 1 0).1 5 k = σ.1 5 k := fun k n0 => (congrFun e5 k).trans (cpo n0)
  refine ⟨e0, ⟨?_, h3, w3_eq _ _ _ _ _, by decide⟩, fun i hi => by omega, fun k hk => ?_, ⟨by rw [ea 0 (by decide) (by decide)]; exact h8, fun z => ?_⟩, by rw [ea 2 (by decide) (by decide)]; exact hr, by rw [ea 11 (by decide) (by decide), ea 12 (by decide) (by decide)]; exact ht, by rw [ea 0 (by decide) (by decide)]; exact hf⟩
  · rw [w3_ne (by omega), cpa (by decide)]
    exact h2
  · by_cases k0 : k = 0
    · rw [k0, e0, ← h9 hs]
      exact h7 1 (by decide)
    · rw [eo k k0]
      exact h7 k hk
  · rw [eo 1 (by decide)]
    exact h9 z
