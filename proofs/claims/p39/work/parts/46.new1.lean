/-! constructors: a heap with new things: n of them at f i, and the one at b -/
noncomputable def FH (G : GH) (n : Nat) (f : Nat → Nat) (C : Nat → EC) (b : Nat) (cb : EC) : GH := fun a => if a = b then some cb else @dite (Option EC) (∃ i, i < n ∧ f i = a) (Classical.propDecidable _) (fun h => some (C h.choose)) (fun _ => G a)
def FOK (B : Nat) (G : GH) (n : Nat) (f : Nat → Nat) (b : Nat) : Prop := (∀ i, i < n → ¬ f i = b ∧ G (f i) = none ∧ B ≤ f i) ∧ ∀ i j, i < n → j < n → f i = f j → i = j
def uf (f : Nat → Nat) (n q : Nat) : Nat → Nat := fun i => if i = n then q else f i
def uc (C : Nat → EC) (n : Nat) (c : EC) : Nat → EC := fun i => if i = n then c else C i
theorem FH_b {G : GH} {n : Nat} {f : Nat → Nat} {C : Nat → EC} {b : Nat} {cb : EC} : FH G n f C b cb b = some cb := if_pos rfl
theorem FH_f {B : Nat} {G : GH} {n : Nat} {f : Nat → Nat} {C : Nat → EC} {b : Nat} {cb : EC} (h : FOK B G n f b) {i : Nat} (hi : i < n) : FH G n f C b cb (f i) = some (C i) := by
  unfold FH
  rw [if_neg (h.1 i hi).1]
  have hx : ∃ j, j < n ∧ f j = f i := ⟨i, hi, rfl⟩
  rw [dif_pos hx]
  exact congrArg (fun z => some (C z)) (h.2 _ _ hx.choose_spec.1 hi hx.choose_spec.2)
theorem FH_o {G : GH} {n : Nat} {f : Nat → Nat} {C : Nat → EC} {b : Nat} {cb : EC} {a : Nat} (h1 : ¬ a = b) (h2 : ∀ i, i < n → ¬ f i = a) : FH G n f C b cb a = G a := by
  unfold FH
  rw [if_neg h1, dif_neg (fun ⟨i, hi, e⟩ => h2 i hi e)]
theorem FH_none {B : Nat} {G : GH} {n : Nat} {f : Nat → Nat} {C : Nat → EC} {b : Nat} {cb : EC} (h : FOK B G n f b) {q : Nat} (hq : FH G n f C b cb q = none) : ¬ q = b ∧ (∀ i, i < n → ¬ f i = q) ∧ G q = none := by
  have h1 : ¬ q = b := fun z => by
    rw [z, FH_b] at hq
    cases hq
  have h2 : ∀ i, i < n → ¬ f i = q := fun i hi z => by
    rw [← z, FH_f h hi] at hq
    cases hq
  rw [FH_o h1 h2] at hq
  exact ⟨h1, h2, hq⟩
theorem FOK_new {B : Nat} {G : GH} {n : Nat} {f : Nat → Nat} {C : Nat → EC} {b : Nat} {cb : EC} (h : FOK B G n f b) {q : Nat} (hq : FH G n f C b cb q = none) (hB : B ≤ q) : FOK B G (n + 1) (uf f n q) b := by
  obtain ⟨h1, h2, h3⟩ := FH_none h hq
  refine ⟨fun i hi => ?_, fun i j hi hj => ?_⟩
  · unfold uf
    by_cases e : i = n
    · rw [if_pos e]
      exact ⟨h1, h3, hB⟩
    · rw [if_neg e]
      exact h.1 i (by omega)
  · unfold uf
    by_cases e : i = n
    · by_cases e2 : j = n
      · intro _
        omega
      · rw [if_pos e, if_neg e2]
        exact fun z => absurd z.symm (h2 j (by omega))
    · by_cases e2 : j = n
      · rw [if_neg e, if_pos e2]
        exact fun z => absurd z (h2 i (by omega))
      · rw [if_neg e, if_neg e2]
        exact h.2 i j (by omega) (by omega)
theorem FH_new {B : Nat} {G : GH} {n : Nat} {f : Nat → Nat} {C : Nat → EC} {b : Nat} {cb c : EC} (h : FOK B G n f b) {q : Nat} (hq : FH G n f C b cb q = none) (hB : B ≤ q) : gset (FH G n f C b cb) q c = FH G (n + 1) (uf f n q) (uc C n c) b cb := by
  have h' := FOK_new h hq hB
  obtain ⟨h1, h2, h3⟩ := FH_none h hq
  have fn : ∀ i, i < n → uf f n q i = f i := fun i hi => if_neg (by omega)
  have cn : ∀ i, i < n → uc C n c i = C i := fun i hi => if_neg (by omega)
  funext a
  unfold gset
  by_cases e : a = q
  · rw [if_pos e, e]
    have := FH_f (C := uc C n c) (cb := cb) h' (Nat.lt_succ_self n)
    rw [show uf f n q n = q from if_pos rfl, show uc C n c n = c from if_pos rfl] at this
    exact this.symm
  · rw [if_neg e]
    by_cases eb : a = b
    · rw [eb, FH_b, FH_b]
    · by_cases ex : ∃ i, i < n ∧ f i = a
      · obtain ⟨i, hi, rfl⟩ := ex
        have := FH_f (C := uc C n c) (cb := cb) h' (Nat.lt_succ_of_lt hi)
        rw [fn i hi, cn i hi] at this
        rw [FH_f h hi, this]
      · rw [FH_o eb (fun i hi z => ex ⟨i, hi, z⟩), FH_o eb (fun i hi z => ?_)]
        by_cases en : i = n
        · unfold uf at z
          rw [if_pos en] at z
          exact e z.symm
        · rw [fn i (by omega)] at z
          exact ex ⟨i, by omega, z⟩
theorem FH_st {B : Nat} {G : GH} {n : Nat} {f : Nat → Nat} {C : Nat → EC} {b : Nat} {cb c : EC} (h : FOK B G n f b) {i : Nat} (hi : i < n) : gset (FH G n f C b cb) (f i) c = FH G n f (uc C i c) b cb := by
  funext a
  unfold gset
  by_cases e : a = f i
  · rw [if_pos e, e, FH_f h hi]
    exact congrArg some (if_pos rfl).symm
  · rw [if_neg e]
    by_cases eb : a = b
    · rw [eb, FH_b, FH_b]
    · by_cases ex : ∃ j, j < n ∧ f j = a
      · obtain ⟨j, hj, rfl⟩ := ex
        rw [FH_f h hj, FH_f h hj]
        exact congrArg some (if_neg (fun z => e (by rw [z]))).symm
      · rw [FH_o eb (fun j hj z => ex ⟨j, hj, z⟩), FH_o eb (fun j hj z => ex ⟨j, hj, z⟩)]
theorem FH_sb {G : GH} {n : Nat} {f : Nat → Nat} {C : Nat → EC} {b : Nat} {cb cb' : EC} : gset (FH G n f C b cb) b cb' = FH G n f C b cb' := by
  funext a
  unfold gset FH
  by_cases e : a = b
  · rw [if_pos e, if_pos e]
  · rw [if_neg e, if_neg e, if_neg e]
theorem FH_0 {G : GH} {f : Nat → Nat} {C : Nat → EC} {b : Nat} {cb : EC} (h : G b = some cb) : G = FH G 0 f C b cb := by
  funext a
  by_cases e : a = b
  · rw [e, FH_b, h]
  · rw [FH_o e (fun i hi => absurd hi (Nat.not_lt_zero i))]
theorem FOK_0 {B : Nat} {G : GH} {f : Nat → Nat} {b : Nat} : FOK B G 0 f b := ⟨fun i hi => absurd hi (Nat.not_lt_zero i), fun i j hi => absurd hi (Nat.not_lt_zero i)⟩
/-- new things made inside: one more world on the thing at f k -/
def apF (n : Nat) (f g : Nat → Nat) : Nat → Nat := fun i => if i < n then f i else g (i - n)
def apC (n k : Nat) (c : EC) (C D : Nat → EC) : Nat → EC := fun i => if i < n then (if i = k then c else C i) else D (i - n)
theorem FOK_app {B : Nat} {G : GH} {n m k : Nat} {f g : Nat → Nat} {C : Nat → EC} {b : Nat} {cb : EC} (h : FOK B G n f b) (h2 : FOK B (FH G n f C b cb) m g (f k)) : FOK B G (n + m) (apF n f g) b := by
  refine ⟨fun i hi => ?_, fun i j hi hj => ?_⟩
  · unfold apF
    by_cases e : i < n
    · rw [if_pos e]
      exact h.1 i e
    · rw [if_neg e]
      obtain ⟨g1, g2, g3⟩ := h2.1 (i - n) (by omega)
      obtain ⟨e1, e2, e3⟩ := FH_none h g2
      exact ⟨e1, e3, g3⟩
  · unfold apF
    by_cases e : i < n
    · by_cases e2 : j < n
      · rw [if_pos e, if_pos e2]
        exact h.2 i j e e2
      · rw [if_pos e, if_neg e2]
        obtain ⟨g1, g2, g3⟩ := h2.1 (j - n) (by omega)
        exact fun z => absurd z ((FH_none h g2).2.1 i e)
    · by_cases e2 : j < n
      · rw [if_neg e, if_pos e2]
        obtain ⟨g1, g2, g3⟩ := h2.1 (i - n) (by omega)
        exact fun z => absurd z.symm ((FH_none h g2).2.1 j e2)
      · rw [if_neg e, if_neg e2]
        intro z
        have := h2.2 (i - n) (j - n) (by omega) (by omega) z
        omega
theorem FH_app {B : Nat} {G : GH} {n m k : Nat} {f g : Nat → Nat} {C D : Nat → EC} {b : Nat} {cb c : EC} (h : FOK B G n f b) (hk : k < n) (h2 : FOK B (FH G n f C b cb) m g (f k)) : FH (FH G n f C b cb) m g D (f k) c = FH G (n + m) (apF n f g) (apC n k c C D) b cb := by
  have h3 := FOK_app h h2
  have e1 : ∀ i, i < n → FH G (n + m) (apF n f g) (apC n k c C D) b cb (f i) = some (if i = k then c else C i) := fun i hi => by
    have := FH_f (C := apC n k c C D) (cb := cb) h3 (show i < n + m by omega)
    rw [show apF n f g i = f i from if_pos hi, show apC n k c C D i = (if i = k then c else C i) from if_pos hi] at this
    exact this
  have e2 : ∀ i, i < m → FH G (n + m) (apF n f g) (apC n k c C D) b cb (g i) = some (D i) := fun i hi => by
    have := FH_f (C := apC n k c C D) (cb := cb) h3 (show n + i < n + m by omega)
    rw [show apF n f g (n + i) = g i from by unfold apF; rw [if_neg (by omega), Nat.add_sub_cancel_left], show apC n k c C D (n + i) = D i from by unfold apC; rw [if_neg (by omega), Nat.add_sub_cancel_left]] at this
    exact this
  funext a
  by_cases ek : a = f k
  · rw [ek, FH_b, e1 k hk, if_pos rfl]
  · by_cases eg : ∃ i, i < m ∧ g i = a
    · obtain ⟨i, hi, rfl⟩ := eg
      rw [FH_f h2 hi, e2 i hi]
    · rw [FH_o ek (fun i hi z => eg ⟨i, hi, z⟩)]
      by_cases eb : a = b
      · rw [eb, FH_b, FH_b]
      · by_cases ef : ∃ i, i < n ∧ f i = a
        · obtain ⟨i, hi, rfl⟩ := ef
          rw [FH_f h hi, e1 i hi, if_neg (fun z => ek (by rw [z]))]
        · rw [FH_o eb (fun i hi z => ef ⟨i, hi, z⟩), FH_o eb (fun i hi z => ?_)]
          unfold apF at z
          by_cases e : i < n
          · rw [if_pos e] at z
            exact ef ⟨i, e, z⟩
          · rw [if_neg e] at z
            exact eg ⟨i - n, by omega, z⟩
/-- cells that agree: an array's places behind its end don't count -/
def ceq (c d : EC) : Prop := match c, d with
  | .inl x, .inl y => x = y
  | .inr x, .inr y => x.1 = y.1 ∧ x.2.1 = y.2.1 ∧ ∀ j, j < x.2.1 → x.2.2 j = y.2.2 j
  | _, _ => False
theorem ev_at.ceq {D : va_G} {U : State} {a : Nat} {c d : EC} {H : Heap} (h : ev_at D U a c H) (e : ceq c d) : ev_at D U a d H := by
  cases c with
  | inl x =>
    cases d with
    | inl y =>
      have e' : x = y := e
      rw [← e']
      exact h
    | inr y => exact e.elim
  | inr x =>
    cases d with
    | inl y => exact e.elim
    | inr y =>
      obtain ⟨t1, n1, f1⟩ := x
      obtain ⟨t2, n2, f2⟩ := y
      obtain ⟨e1, e2, e3⟩ := e
      dsimp only at e1 e2 e3
      subst e1
      subst e2
      obtain ⟨cA, h1, h2, h3⟩ := h
      refine ⟨cA, ?_, h2, h3⟩
      rw [h1]
      refine congrArg some ?_
      show arrV cA n1 f1 = arrV cA n1 f2
      unfold arrV
      have : (Array.ofFn (n := n1) fun j => f1 j.val) = Array.ofFn (n := n1) fun j => f2 j.val := congrArg Array.ofFn (funext fun j => e3 j.val j.isLt)
      rw [this]
theorem V.sub2 {D : va_G} {s0 : State} {own mn : String} {cc : ByteArray} {nL : Nat} {ret : Option FieldType} {hh : List (Nat × Nat × Nat × Nat)} {l : Launch} {R : Room} {Z : ZT} {pc : Nat} {lo : List (Nat × Value)} {st : List Value} {G G' : GH} {cells slots : Nat} (h : ∀ a d, G' a = some d → ∃ c, G a = some c ∧ ceq c d) (k : V D s0 own mn cc nL ret hh l R Z pc lo st G' cells slots) : V D s0 own mn cc nL ret hh l R Z pc lo st G cells slots := fun p e s m args below meth c H locs ls C hS hE hl => k p e s m args below meth c H locs ls C hS (fun a x hx => by
  obtain ⟨c', h1, h2⟩ := h a x hx
  exact ⟨(hE a c' h1).1, (hE a c' h1).2.ceq h2⟩) hl

