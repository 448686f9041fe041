/-! between two calls: the reference's side -/
theorem RK.f {σ τ : Sg} {cn tl : Nat} {w sv tx : Nat → Int32} {h : HF} {sf ft : Int32} {rr : RT} {T : List Nat} (q : RK σ w cn h sf sv rr tl tx ft T) (e : ∀ a, 21 ≤ a → τ.1 a = σ.1 a) (e2 : ∀ f, f < 15 → ¬ f = 6 → τ.1 20 0 f = σ.1 20 0 f) : RK τ w cn h sf sv rr tl tx ft T := by
  unfold RK at q ⊢
  rw [e 21 (by decide), e 22 (by decide), e 23 (by decide), e 24 (by decide), e 25 (by decide), e 26 (by decide), e2 5 (by decide) (by decide), e2 4 (by decide) (by decide), e2 7 (by decide) (by decide), e2 8 (by decide) (by decide), e2 9 (by decide) (by decide), e2 11 (by decide) (by decide), e2 12 (by decide) (by decide), e2 14 (by decide) (by decide)]
  exact q
theorem RK.t {σ : Sg} {cn tl : Nat} {w sv tx : Nat → Int32} {h : HF} {sf ft x : Int32} {rr : RT} {T : List Nat} (q : RK σ w cn h sf sv rr tl tx ft T) : RK (tS σ x) w cn h sf sv rr tl tx ft T :=
  q.f (fun a ha => w3a (by omega)) (fun f hf h6 => w3_ne (by omega))
theorem beg_22w {σ : Sg} {cn tl : Nat} {w sv tx : Nat → Int32} {h : HF} {sf ft : Int32} {rr : RT} {T : List Nat} (q : RK σ w cn h sf sv rr tl tx ft T) (hz : ∀ j, 102 ≤ j → w j = 0) : (beg σ).1 22 0 = w := by
  rw [beg_22, q.1]
  exact blit_all (fun j hj => by rw [q.2.1.1 j hj, hz j hj])
/-- the reference: a change went through -/
theorem RK.push {σ : Sg} {cn tl : Nat} {w w' sv tx : Nat → Int32} {h : HF} {sf ft b : Int32} {rr : RT} {T : List Nat} (q : RK σ w cn h sf sv rr tl tx ft T) (hz : ∀ j, 102 ≤ j → w j = 0) : RK (remS (w3 (rs (beg σ) (0, b) w') 20 0 6 0) cn ((beg σ).1 22 0)) w' (upN cn) (hPush cn h w) sf sv rr tl tx ft T := by
  rw [beg_22w q hz]
  have hB := beg_22w q hz
  obtain ⟨h1, ⟨h2, h3⟩, ⟨h4, h5, h6⟩, ⟨h7, h8⟩, hr, ht, hf, hl⟩ := q
  have ea : ∀ a, 22 ≤ a → ¬ a = 24 → (remS (w3 (rs (beg σ) (0, b) w') 20 0 6 0) cn w).1 a = (beg σ).1 a := fun a g n => by
    unfold remS
    rw [w3a (by omega), rowa n, w3a (by omega), rs_a (by omega) (by omega)]
  have ef : ∀ f, f < 15 → ¬ f = 5 → ¬ f = 6 → (remS (w3 (rs (beg σ) (0, b) w') 20 0 6 0) cn w).1 20 0 f = σ.1 20 0 f := fun f g n5 n6 => by
    unfold remS
    rw [w3_ne (by omega), rowa (by decide), w3_ne (by omega), rs_f g, beg_f (by omega)]
  have e24 : (remS (w3 (rs (beg σ) (0, b) w') 20 0 6 0) cn w).1 24 0 = pushH (σ.1 24 0) cn w := by
    unfold remS
    rw [w3a (by decide), row_at, w3a (by decide), rs_a (by decide) (by decide), beg_a (by decide) (by decide)]
  refine ⟨?_, ⟨fun j hj => ?_, fun j hj => ?_⟩, ⟨?_, upN_le h5, fun i j hi hj => ?_⟩, ⟨?_, fun z => ?_⟩, ?_, ?_, ?_, ?_⟩
  · unfold remS
    rw [w3a (by decide), rowa (by decide), w3a (by decide), rs_21]
  · rw [ea 22 (by decide) (by decide), hB]
    exact hz j hj
  · rw [ea 23 (by decide) (by decide), beg_a (by decide) (by decide)]
    exact h3 j hj
  · unfold remS
    rw [w3_eq]
  · rw [e24]
    unfold pushH hPush
    unfold upN at hi
    by_cases c8 : cn = 8
    · rw [if_pos c8] at hi ⊢
      rw [if_pos c8]
      unfold blit
      by_cases i7 : i < 7
      · rw [if_neg (by omega), if_pos i7]
        unfold shn
        rw [if_pos (by omega), ← h6 (i + 1) j (by omega) hj]
        exact congrArg (σ.1 24 0) (by omega)
      · rw [if_pos (by omega), if_neg i7]
        exact congrArg w (by omega)
    · rw [if_neg c8] at hi ⊢
      rw [if_neg c8]
      unfold blit
      by_cases ic : i = cn
      · rw [if_pos (by omega), if_pos ic]
        exact congrArg w (by omega)
      · rw [if_neg (by omega), if_neg ic]
        exact h6 i j (by omega) hj
  · rw [ef 4 (by decide) (by decide) (by decide)]
    exact h7
  · rw [ea 23 (by decide) (by decide), beg_a (by decide) (by decide)]
    exact h8 z
  · rw [ef 7 (by decide) (by decide) (by decide), ef 8 (by decide) (by decide) (by decide), ef 9 (by decide) (by decide) (by decide)]
    exact hr
  · rw [ef 11 (by decide) (by decide) (by decide), ea 25 (by decide) (by decide), beg_a (by decide) (by decide)]
    exact ht
  · rw [ef 12 (by decide) (by decide) (by decide)]
    exact hf
  · rw [ef 14 (by decide) (by decide) (by decide), ea 26 (by decide) (by decide), beg_a (by decide) (by decide)]
    exact hl
/-- the reference: a change was refused -/
theorem RK.ref {σ : Sg} {cn tl : Nat} {w u sv tx : Nat → Int32} {h : HF} {sf ft pl ex : Int32} {P : Int32 × Int32} {rr : RT} {T : List Nat} (q : RK σ w cn h sf sv rr tl tx ft T) (hz : ∀ j, 102 ≤ j → w j = 0) (hu : ∀ j, 102 ≤ j → u j = 0) : RK (refS (rs (beg σ) P u) pl ex) w cn h sf sv (P.1, P.2, pl) tl tx ft T := by
  have hB := beg_22w q hz
  obtain ⟨h1, ⟨h2, h3⟩, ⟨h4, h5, h6⟩, ⟨h7, h8⟩, hr, ht, hf, hl⟩ := q
  have ea : ∀ a, 22 ≤ a → (refS (rs (beg σ) P u) pl ex).1 a = (beg σ).1 a := fun a g => by
    unfold refS
    rw [rowa (by omega), w3a (by omega), w3a (by omega), w3a (by omega), w3a (by omega), rs_a (by omega) (by omega)]
  have ef : ∀ f, f < 15 → ¬ f = 6 → ¬ f = 7 → ¬ f = 8 → ¬ f = 9 → (refS (rs (beg σ) P u) pl ex).1 20 0 f = σ.1 20 0 f := fun f g n6 n7 n8 n9 => by
    unfold refS
    rw [rowa (by decide), w3_ne (by omega), w3_ne (by omega), w3_ne (by omega), w3_ne (by omega), rs_f g, beg_f (by omega)]
  refine ⟨?_, ⟨fun j hj => ?_, fun j hj => ?_⟩, ⟨?_, h5, fun i j hi hj => ?_⟩, ⟨?_, fun z => ?_⟩, ⟨?_, ?_, ?_⟩, ?_, ?_, ?_⟩
  · unfold refS
    rw [row_at, rs_21, rs_a (by decide) (by decide), hB]
    exact blit_all (fun j hj => by rw [hu j hj, hz j hj])
  · rw [ea 22 (by decide), hB]
    exact hz j hj
  · rw [ea 23 (by decide), beg_a (by decide) (by decide)]
    exact h3 j hj
  · rw [ef 5 (by decide) (by decide) (by decide) (by decide) (by decide)]
    exact h4
  · rw [ea 24 (by decide), beg_a (by decide) (by decide)]
    exact h6 i j hi hj
  · rw [ef 4 (by decide) (by decide) (by decide) (by decide) (by decide)]
    exact h7
  · rw [ea 23 (by decide), beg_a (by decide) (by decide)]
    exact h8 z
  · unfold refS
    rw [rowa (by decide), w3_ne (by omega), w3_ne (by omega), w3_eq, rs_15]
  · unfold refS
    rw [rowa (by decide), w3_ne (by omega), w3_eq, rs_16]
  · unfold refS
    rw [rowa (by decide), w3_eq]
  · rw [ef 11 (by decide) (by decide) (by decide) (by decide) (by decide), ea 25 (by decide), beg_a (by decide) (by decide)]
    exact ht
  · rw [ef 12 (by decide) (by decide) (by decide) (by decide) (by decide)]
    exact hf
  · rw [ef 14 (by decide) (by decide) (by decide) (by decide) (by decide), ea 26 (by decide), beg_a (by decide) (by decide)]
    exact hl
theorem remS_6 {σ : Sg} {cn : Nat} {v : Nat → Int32} {x : Int32} : (remS (w3 σ 20 0 6 x) cn v).1 20 0 6 = x := by
  unfold remS
  rw [w3_ne (by omega), rowa (by decide), w3_eq]
theorem refS_6 {σ : Sg} {pl ex : Int32} : (refS σ pl ex).1 20 0 6 = ex := by
  unfold refS
  rw [rowa (by decide), w3_ne (by omega), w3_ne (by omega), w3_ne (by omega), w3_eq]
theorem rs_b {σ : Sg} {P : Int32 × Int32} {u : Nat → Int32} {a : Nat} (h : a < 20) : (rs σ P u).1 a = σ.1 a := rs_a (by omega) (by omega)
theorem remS_b {σ : Sg} {cn a : Nat} {v : Nat → Int32} (h : a < 20) : (remS σ cn v).1 a = σ.1 a := by
  unfold remS
  rw [w3a (by omega), rowa (by omega)]
theorem refS_b {σ : Sg} {pl ex : Int32} {a : Nat} (h : a < 20) : (refS σ pl ex).1 a = σ.1 a := by
  unfold refS
  rw [rowa (by omega), w3a (by omega), w3a (by omega), w3a (by omega), w3a (by omega)]
theorem beg_b {σ : Sg} {a : Nat} (h : a < 20) : (beg σ).1 a = σ.1 a := beg_a (by omega) (by omega)
/-- the reference: its text and the fault's place; then it goes on from there -/
theorem RK.text {σ τ : Sg} {cn tl n : Nat} {w sv tx : Nat → Int32} {h : HF} {sf ft x y : Int32} {rr : RT} {T : List Nat} (q : RK σ w cn h sf sv rr tl tx ft T) (hT : TR (crA σ n) τ) : RK (crB τ x y) w cn h sf sv rr 0 tx x T := by
  obtain ⟨h1, ⟨h2, h3⟩, ⟨h4, h5, h6⟩, ⟨h7, h8⟩, hr, ht, hf, hl⟩ := q
  have ea : ∀ a, 21 ≤ a → a < 27 → (crB τ x y).1 a = σ.1 a := fun a g1 g2 => (crB_a (by omega)).trans ((hT.1 a (by omega) (by omega) (by omega)).trans (crA_a (by omega)))
  have ef : ∀ f, f < 15 → ¬ f = 6 → ¬ f = 11 → ¬ f = 12 → (crB τ x y).1 20 0 f = σ.1 20 0 f := fun f g n6 n11 n12 => by
    unfold crB
    rw [w3_ne (by omega), w3_ne (by omega), hT.2.1 f (by omega)]
    unfold crA
    rw [w3_ne (by omega), w3_ne (by omega)]
  unfold RK
  rw [ea 21 (by decide) (by decide), ea 22 (by decide) (by decide), ea 23 (by decide) (by decide), ea 24 (by decide) (by decide), ea 25 (by decide) (by decide), ea 26 (by decide) (by decide), ef 5 (by decide) (by decide) (by decide) (by decide), ef 4 (by decide) (by decide) (by decide) (by decide), ef 7 (by decide) (by decide) (by decide) (by decide), ef 8 (by decide) (by decide) (by decide) (by decide), ef 9 (by decide) (by decide) (by decide) (by decide), ef 14 (by decide) (by decide) (by decide) (by decide)]
  refine ⟨h1, ⟨h2, h3⟩, ⟨h4, h5, h6⟩, ⟨h7, h8⟩, hr, ⟨?_, fun j hj => by omega⟩, ?_, hl⟩
  · unfold crB
    rw [w3_ne (by omega), w3_ne (by omega), hT.2.1 11 (by omega)]
    unfold crA
    exact w3_eq _ _ _ _ _
  · unfold crB
    rw [w3_ne (by omega), w3_eq]
/-- the reference: a character more -/
theorem RK.app {σ : Sg} {cn tl : Nat} {w sv tx : Nat → Int32} {h : HF} {sf ft x : Int32} {rr : RT} {T : List Nat} (q : RK σ w cn h sf sv rr tl tx ft T) : RK (w3 (w3 (w3 σ 20 0 6 0) 25 0 tl x) 20 0 11 (nI (tl + 1))) w cn h sf sv rr (tl + 1) (up tx tl x) ft T := by
  obtain ⟨h1, h2, h4, h7, hr, ⟨t1, t2⟩, hf, hl⟩ := q
  have ea : ∀ a, 21 ≤ a → ¬ a = 25 → (w3 (w3 (w3 σ 20 0 6 0) 25 0 tl x) 20 0 11 (nI (tl + 1))).1 a = σ.1 a := fun a g1 g2 => (w3a (by omega)).trans ((w3a g2).trans (w3a (by omega)))
  have ef : ∀ f, ¬ f = 6 → ¬ f = 11 → (w3 (w3 (w3 σ 20 0 6 0) 25 0 tl x) 20 0 11 (nI (tl + 1))).1 20 0 f = σ.1 20 0 f := fun f n6 n11 => (w3_ne (by omega)).trans ((w3_ne (by omega)).trans (w3_ne (by omega)))
  unfold RK
  rw [ea 21 (by decide) (by decide), ea 22 (by decide) (by decide), ea 23 (by decide) (by decide), ea 24 (by decide) (by decide), ea 26 (by decide) (by decide), ef 5 (by decide) (by decide), ef 4 (by decide) (by decide), ef 7 (by decide) (by decide), ef 8 (by decide) (by decide), ef 9 (by decide) (by decide), ef 12 (by decide) (by decide), ef 14 (by decide) (by decide)]
  refine ⟨h1, h2, h4, h7, hr, ⟨w3_eq _ _ _ _ _, fun j hj => ?_⟩, hf, hl⟩
  rw [w3a (by decide), w3v]
  unfold up
  by_cases e : j = tl
  · rw [if_pos e, if_pos e]
  · rw [if_neg e, if_neg e, w3a (by decide)]
    exact t2 j (by omega)
theorem blt {σ : Sg} {v u : Nat → Int32} {a : Nat} (hu : ∀ j, 102 ≤ j → u j = 0) (hv : ∀ j, 102 ≤ j → v j = 0) {g : Nat → Int32} (hg : ∀ j, j < 102 → g (a + j) = v j) : blit u 0 g a 102 = v := by
  funext j
  unfold blit
  by_cases hj : j < 102
  · rw [if_pos ⟨Nat.zero_le _, by omega⟩]
    exact hg j hj
  · rw [if_neg (by omega), hu j (by omega), hv j (by omega)]
/-- the reference: the latest change is undone -/
theorem RK.undo {σ : Sg} {cn tl : Nat} {w sv tx : Nat → Int32} {h : HF} {sf ft : Int32} {rr : RT} {T : List Nat} (q : RK σ w cn h sf sv rr tl tx ft T) (hc : 1 ≤ cn) (hz : ∀ j, 102 ≤ j → w j = 0) (hv : ∀ j, 102 ≤ j → h (cn - 1) j = 0) : RK (undR σ cn) (h (cn - 1)) (cn - 1) h sf sv rr tl tx ft T := by
  obtain ⟨h1, h2, ⟨h4, h5, h6⟩, h7, hr, ht, hf, hl⟩ := q
  unfold undR
  rw [if_neg (by omega)]
  have ea : ∀ a, 22 ≤ a → (row (w3 (w3 σ 20 0 6 0) 20 0 5 (nI (cn - 1))) 21 0 (blit (σ.1 21 0) 0 (σ.1 24 0) ((cn - 1) * 102) 102)).1 a = σ.1 a := fun a g => by rw [rowa (by omega), w3a (by omega), w3a (by omega)]
  have ef : ∀ f, ¬ f = 6 → ¬ f = 5 → (row (w3 (w3 σ 20 0 6 0) 20 0 5 (nI (cn - 1))) 21 0 (blit (σ.1 21 0) 0 (σ.1 24 0) ((cn - 1) * 102) 102)).1 20 0 f = σ.1 20 0 f := fun f n6 n5 => by rw [rowa (by decide), w3_ne (by omega), w3_ne (by omega)]
  unfold RK
  rw [ea 22 (by decide), ea 23 (by decide), ea 24 (by decide), ea 25 (by decide), ea 26 (by decide), ef 4 (by decide) (by decide), ef 7 (by decide) (by decide), ef 8 (by decide) (by decide), ef 9 (by decide) (by decide), ef 11 (by decide) (by decide), ef 12 (by decide) (by decide), ef 14 (by decide) (by decide)]
  refine ⟨?_, h2, ⟨?_, by omega, fun i j hi hj => h6 i j (by omega) hj⟩, h7, hr, ht, hf, hl⟩
  · rw [row_at, h1]
    exact blt (σ := σ) hz hv (fun j hj => h6 (cn - 1) j (by omega) hj)
  · rw [rowa (by decide), w3_eq]
/-- the reference: a snapshot -/
theorem RK.save {σ : Sg} {cn tl : Nat} {w sv tx : Nat → Int32} {h : HF} {sf ft : Int32} {rr : RT} {T : List Nat} (q : RK σ w cn h sf sv rr tl tx ft T) (hz : ∀ j, 102 ≤ j → w j = 0) : RK (savR σ) w cn h 1 w rr tl tx ft T := by
  obtain ⟨h1, ⟨h2, h3⟩, h4, h7, hr, ht, hf, hl⟩ := q
  have e23 : (savR σ).1 23 0 = w := by
    unfold savR
    rw [w3a (by decide), row_at, h1]
    exact blit_all (fun j hj => by rw [h3 j hj, hz j hj])
  have ea : ∀ a, 21 ≤ a → ¬ a = 23 → (savR σ).1 a = σ.1 a := fun a g n => by
    unfold savR
    rw [w3a (by omega), rowa n, w3a (by omega)]
  have ef : ∀ f, ¬ f = 6 → ¬ f = 4 → (savR σ).1 20 0 f = σ.1 20 0 f := fun f n6 n4 => by
    unfold savR
    rw [w3_ne (by omega), rowa (by decide), w3_ne (by omega)]
  unfold RK
  rw [e23, ea 21 (by decide) (by decide), ea 22 (by decide) (by decide), ea 24 (by decide) (by decide), ea 25 (by decide) (by decide), ea 26 (by decide) (by decide), ef 5 (by decide) (by decide), ef 7 (by decide) (by decide), ef 8 (by decide) (by decide), ef 9 (by decide) (by decide), ef 11 (by decide) (by decide), ef 12 (by decide) (by decide), ef 14 (by decide) (by decide)]
  exact ⟨h1, ⟨h2, hz⟩, h4, ⟨w3_eq _ _ _ _ _, fun _ => rfl⟩, hr, ht, hf, hl⟩
/-- the reference: the snapshot comes back -/
theorem RK.rest {σ : Sg} {cn tl : Nat} {w sv tx : Nat → Int32} {h : HF} {sf ft : Int32} {rr : RT} {T : List Nat} (q : RK σ w cn h sf sv rr tl tx ft T) (hs : ¬ sf = 0) (hz : ∀ j, 102 ≤ j → w j = 0) : RK (resR σ) sv 0 h sf sv rr tl tx ft T := by
  obtain ⟨h1, ⟨h2, h3⟩, ⟨h4, h5, h6⟩, ⟨h7, h8⟩, hr, ht, hf, hl⟩ := q
  unfold resR
  rw [if_neg (by rw [h7]; exact hs)]
  have ea : ∀ a, 22 ≤ a → (w3 (row (w3 σ 20 0 6 0) 21 0 (blit (σ.1 21 0) 0 (σ.1 23 0) 0 102)) 20 0 5 0).1 a = σ.1 a := fun a g => by rw [w3a (by omega), rowa (by omega), w3a (by omega)]
  have ef : ∀ f, ¬ f = 6 → ¬ f = 5 → (w3 (row (w3 σ 20 0 6 0) 21 0 (blit (σ.1 21 0) 0 (σ.1 23 0) 0 102)) 20 0 5 0).1 20 0 f = σ.1 20 0 f := fun f n6 n5 => by rw [w3_ne (by omega), rowa (by decide), w3_ne (by omega)]
  unfold RK
  rw [ea 22 (by decide), ea 23 (by decide), ea 24 (by decide), ea 25 (by decide), ea 26 (by decide), ef 4 (by decide) (by decide), ef 7 (by decide) (by decide), ef 8 (by decide) (by decide), ef 9 (by decide) (by decide), ef 11 (by decide) (by decide), ef 12 (by decide) (by decide), ef 14 (by decide) (by decide)]
  refine ⟨?_, ⟨h2, h3⟩, ⟨w3_eq _ _ _ _ _, by decide, fun i j hi => by omega⟩, ⟨h7, h8⟩, hr, ht, hf, hl⟩
  rw [w3a (by decide), row_at, h1, h8 hs]
  exact blit_all (fun j hj => by rw [hz j hj, ← h8 hs, h3 j hj])
/-- the reference: a line -/
theorem RK.line {σ ρ : Sg} {cn tl p : Nat} {w sv tx : Nat → Int32} {h : HF} {sf ft : Int32} {rr : RT} {T T' : List Nat} (q : RK σ w cn h sf sv rr tl tx ft T) (hp : LnP (tS σ 0) ρ T' p) : RK (w3 ρ 20 0 14 (nI p)) w cn h sf sv rr tl tx ft T' := by
  obtain ⟨h1, h2, h4, h7, hr, ht, hf, hl⟩ := q
  obtain ⟨p1, p2, p3, p4⟩ := hp
  have ea : ∀ a, 21 ≤ a → ¬ a = 26 → (w3 ρ 20 0 14 (nI p)).1 a = σ.1 a := fun a g n => by
    rw [w3a (by omega), p2 a n]
    exact w3a (by omega)
  have ef : ∀ f, ¬ f = 6 → ¬ f = 14 → (w3 ρ 20 0 14 (nI p)).1 20 0 f = σ.1 20 0 f := fun f n6 n5 => by
    rw [w3_ne (by omega), p2 20 (by decide)]
    exact w3_ne (by omega)
  unfold RK
  rw [ea 21 (by decide) (by decide), ea 22 (by decide) (by decide), ea 23 (by decide) (by decide), ea 24 (by decide) (by decide), ea 25 (by decide) (by decide), ef 5 (by decide) (by decide), ef 4 (by decide) (by decide), ef 7 (by decide) (by decide), ef 8 (by decide) (by decide), ef 9 (by decide) (by decide), ef 11 (by decide) (by decide), ef 12 (by decide) (by decide)]
  refine ⟨h1, h2, h4, h7, hr, ht, hf, ?_, fun i hi => ?_⟩
  · rw [w3_eq, p1]
  · rw [w3a (by decide)]
    exact p4 i hi
