/-! the street's numbers add up: sacks, coins -/
def ns (f : Nat → Nat) : Nat → Nat
  | 0 => 0
  | n + 1 => ns f n + f n
def un (f : Nat → Nat) (i v : Nat) : Nat → Nat := fun j => if j = i then v else f j
theorem un_at {f : Nat → Nat} {i v : Nat} : un f i v i = v := if_pos rfl
theorem un_ne {f : Nat → Nat} {i v j : Nat} (h : ¬ j = i) : un f i v j = f j := if_neg h
theorem ns_cg {f g : Nat → Nat} : ∀ n, (∀ i, i < n → f i = g i) → ns f n = ns g n
  | 0, _ => rfl
  | n + 1, h => by rw [ns, ns, ns_cg n (fun i hi => h i (by omega)), h n (by omega)]
theorem ns_un {f : Nat → Nat} {i v : Nat} : ∀ n, i < n → ns (un f i v) n + f i = ns f n + v
  | 0, h => absurd h (Nat.not_lt_zero _)
  | n + 1, h => by
    by_cases e : i = n
    · subst e
      rw [ns, ns, un_at, ns_cg (g := f) i (fun j hj => un_ne (by omega))]
      omega
    · have := ns_un (f := f) (i := i) (v := v) n (by omega)
      rw [ns, ns, un_ne (fun z => e z.symm)]
      omega
theorem ns_le {f : Nat → Nat} {i : Nat} : ∀ n, i < n → f i ≤ ns f n
  | 0, h => absurd h (Nat.not_lt_zero _)
  | n + 1, h => by
    rw [ns]
    by_cases e : i = n
    · subst e
      omega
    · have := ns_le (f := f) (i := i) n (by omega)
      omega
theorem ns_z {f : Nat → Nat} {k : Nat} : ∀ n, k ≤ n → (∀ i, k ≤ i → i < n → f i = 0) → ns f n = ns f k
  | 0, h, _ => by rw [show k = 0 by omega]
  | n + 1, h, z => by
    by_cases e : k = n + 1
    · rw [e]
    · rw [ns, ns_z n (by omega) (fun i h1 h2 => z i h1 (by omega)), z n (by omega) (by omega), Nat.add_zero]
theorem sm_ns {g : Nat → Int32} {f : Nat → Nat} : ∀ n, (∀ i, i < n → g i = nI (f i)) → sm g n = nI (ns f n)
  | 0, _ => nI_0.symm
  | n + 1, h => by rw [sm, sm_ns n (fun i hi => h i (by omega)), h n (by omega), nI_add, ns]
/-- a: arrears, e: carried so far, z: carried today, k: carried by the carriers, x: on the cart, y: in the yard, p: paid, q: coins, c: carried; t sacks were carried that still lie on the cart -/
def JN (nh nc t : Nat) (w : Nat → Int32) (a e z k : Nat → Nat) (x y p q c : Nat) : Prop :=
  (∀ i, i < 8 → w (hx i 4) = nI (a i) ∧ w (hx i 8) = nI (e i) ∧ w (hx i 6) = nI (z i) ∧ z i ≤ e i ∧ (nh ≤ i → a i = 0 ∧ e i = 0)) ∧
  (∀ i, i < 4 → w (kx i 3) = nI (k i) ∧ (nc ≤ i → k i = 0)) ∧
  (w 4 = nI x ∧ w 5 = nI y ∧ w 7 = nI p ∧ w 6 = nI q ∧ q ≤ 20 + p) ∧
  ns k 4 = c ∧ ns e 8 = c ∧ x + y + c = 100 + t ∧ p + ns a 8 = 3 * c
def Jn (nh nc t : Nat) (w : Nat → Int32) : Prop := ∃ (a e z k : Nat → Nat) (x y p q c : Nat), JN nh nc t w a e z k x y p q c
theorem Jn.mono {nh nc nh' nc' t : Nat} {w : Nat → Int32} (h : Jn nh nc t w) (h1 : nh ≤ nh') (h2 : nc ≤ nc') : Jn nh' nc' t w := by
  obtain ⟨a, e, z, k, x, y, p, q, c, j1, j2, j3⟩ := h
  exact ⟨a, e, z, k, x, y, p, q, c, fun i hi => ⟨(j1 i hi).1, (j1 i hi).2.1, (j1 i hi).2.2.1, (j1 i hi).2.2.2.1, fun g => (j1 i hi).2.2.2.2 (by omega)⟩, fun i hi => ⟨(j2 i hi).1, fun g => (j2 i hi).2 (by omega)⟩, j3⟩
/-- a place of which the sums know nothing -/
def Ir (j : Nat) : Prop := (¬ 4 = j ∧ ¬ 5 = j ∧ ¬ 6 = j ∧ ¬ 7 = j) ∧ (∀ i, i < 8 → ¬ hx i 4 = j ∧ ¬ hx i 6 = j ∧ ¬ hx i 8 = j) ∧ ∀ i, ¬ kx i 3 = j
theorem Ir.l {j : Nat} (h : j < 14) (h4 : ¬ 4 = j) (h5 : ¬ 5 = j) (h6 : ¬ 6 = j) (h7 : ¬ 7 = j) : Ir j := ⟨⟨h4, h5, h6, h7⟩, fun _ _ => ⟨hl_ne h, hl_ne h, hl_ne h⟩, fun _ => kl_ne h⟩
theorem Ir.h {h f : Nat} (hh : h < 8) (hf : f < 9) (h4 : ¬ 4 = f) (h6 : ¬ 6 = f) (h8 : ¬ 8 = f) : Ir (hx h f) := ⟨⟨fun z => hl_ne (by decide) z.symm, fun z => hl_ne (by decide) z.symm, fun z => hl_ne (by decide) z.symm, fun z => hl_ne (by decide) z.symm⟩, fun _ _ => ⟨hh_ne (by decide) hf h4, hh_ne (by decide) hf h6, hh_ne (by decide) hf h8⟩, fun _ => kh_ne hh hf⟩
theorem Ir.k {c f : Nat} (hf : f < 4) (h3 : ¬ 3 = f) : Ir (kx c f) := ⟨⟨fun z => kl_ne (by decide) z.symm, fun z => kl_ne (by decide) z.symm, fun z => kl_ne (by decide) z.symm, fun z => kl_ne (by decide) z.symm⟩, fun _ hi => ⟨fun z => kh_ne hi (by decide) z.symm, fun z => kh_ne hi (by decide) z.symm, fun z => kh_ne hi (by decide) z.symm⟩, fun _ => kk_ne (by decide) hf h3⟩
theorem JN.u {nh nc t : Nat} {w : Nat → Int32} {a e z k : Nat → Nat} {x y p q c j : Nat} {v : Int32} (h : JN nh nc t w a e z k x y p q c) (g : Ir j) : JN nh nc t (up w j v) a e z k x y p q c := by
  obtain ⟨j1, j2, ⟨j3, j4, j5, j6, j7⟩, j8⟩ := h
  refine ⟨fun i hi => ?_, fun i hi => ?_, ⟨?_, ?_, ?_, ?_, j7⟩, j8⟩
  · rw [up_ne (g.2.1 i hi).1, up_ne (g.2.1 i hi).2.1, up_ne (g.2.1 i hi).2.2]
    exact j1 i hi
  · rw [up_ne (g.2.2 i)]
    exact j2 i hi
  · rw [up_ne g.1.1]
    exact j3
  · rw [up_ne g.1.2.1]
    exact j4
  · rw [up_ne g.1.2.2.2]
    exact j5
  · rw [up_ne g.1.2.2.1]
    exact j6
theorem Jn.u {nh nc t j : Nat} {w : Nat → Int32} {v : Int32} (h : Jn nh nc t w) (g : Ir j) : Jn nh nc t (up w j v) := by
  obtain ⟨a, e, z, k, x, y, p, q, c, h⟩ := h
  exact ⟨a, e, z, k, x, y, p, q, c, h.u g⟩
/-- from the yard to the cart -/
theorem JN.load {nh nc t : Nat} {w : Nat → Int32} {a e z k : Nat → Nat} {x y p q c n : Nat} (h : JN nh nc t w a e z k x y p q c) (hn : n ≤ y) : JN nh nc t (S_load_w w (nI n)) a e z k (x + n) (y - n) p q c := by
  obtain ⟨j1, j2, ⟨j3, j4, j5, j6, j7⟩, j8, j9, j10, j11⟩ := h
  have ev : S_load_w w (nI n) = up (up w 5 (nI (y - n))) 4 (nI (x + n)) := by
    unfold S_load_w
    dsimp only
    rw [up_ne (by decide), j3, j4, nI_add, pk_sub hn]
  rw [ev]
  refine ⟨fun i hi => ?_, fun i hi => ?_, ⟨up_at, ?_, ?_, ?_, j7⟩, j8, j9, by omega, j11⟩
  · rw [up_ne (hl_ne (by decide)), up_ne (hl_ne (by decide)), up_ne (hl_ne (by decide)), up_ne (hl_ne (by decide)), up_ne (hl_ne (by decide)), up_ne (hl_ne (by decide))]
    exact j1 i hi
  · rw [up_ne (kl_ne (by decide)), up_ne (kl_ne (by decide))]
    exact j2 i hi
  · rw [up_ne (by decide), up_at]
  · rw [up_ne (by decide), up_ne (by decide)]
    exact j5
  · rw [up_ne (by decide), up_ne (by decide)]
    exact j6
/-- coins change -/
theorem JN.coins {nh nc t : Nat} {w : Nat → Int32} {a e z k : Nat → Nat} {x y p q c n : Nat} (h : JN nh nc t w a e z k x y p q c) (hn : n ≤ q) : JN nh nc t (up w 6 (w 6 - nI n)) a e z k x y p (q - n) c := by
  obtain ⟨j1, j2, ⟨j3, j4, j5, j6, j7⟩, j8⟩ := h
  rw [j6, pk_sub hn]
  refine ⟨fun i hi => ?_, fun i hi => ?_, ⟨?_, ?_, ?_, up_at, by omega⟩, j8⟩
  · rw [up_ne (hl_ne (by decide)), up_ne (hl_ne (by decide)), up_ne (hl_ne (by decide))]
    exact j1 i hi
  · rw [up_ne (kl_ne (by decide))]
    exact j2 i hi
  · rw [up_ne (by decide)]
    exact j3
  · rw [up_ne (by decide)]
    exact j4
  · rw [up_ne (by decide)]
    exact j5
/-- a house pays -/
theorem JN.pay {nh nc t : Nat} {w : Nat → Int32} {a e z k : Nat → Nat} {x y p q c n h : Nat} (g : JN nh nc t w a e z k x y p q c) (hh : h < 8) (hn : n ≤ a h) : JN nh nc t (S_pay_w w h (nI n)) (un a h (a h - n)) e z k x y (p + n) (q + n) c := by
  obtain ⟨j1, j2, ⟨j3, j4, j5, j6, j7⟩, j8, j9, j10, j11⟩ := g
  have ev : S_pay_w w h (nI n) = up (up (up w (hx h 4) (nI (a h - n))) 6 (nI (q + n))) 7 (nI (p + n)) := by
    unfold S_pay_w
    dsimp only
    rw [up_ne (show ¬ (7 : Nat) = 6 by decide), up_lo (show (6 : Nat) < 14 by decide), up_lo (show (7 : Nat) < 14 by decide), (j1 h hh).1, pk_sub hn, j5, j6, nI_add, nI_add]
  rw [ev]
  have ha := ns_un (f := a) (i := h) (v := a h - n) 8 hh
  have hl := ns_le (f := a) (i := h) 8 hh
  refine ⟨fun i hi => ?_, fun i hi => ?_, ⟨?_, ?_, up_at, ?_, by omega⟩, j8, j9, j10, by omega⟩
  · obtain ⟨g1, g2, g3, g4, g5⟩ := j1 i hi
    have e8 : ∀ f v, ¬ f = 4 → f < 9 → up (up (up w (hx h 4) v) 6 (nI (q + n))) 7 (nI (p + n)) (hx i f) = w (hx i f) := fun f v n4 f9 => by
      rw [up_ne (hl_ne (by decide)), up_ne (hl_ne (by decide)), up_ne (hh_ne f9 (by decide) n4)]
    refine ⟨?_, (e8 8 _ (by decide) (by decide)).trans g2, (e8 6 _ (by decide) (by decide)).trans g3, g4, fun z9 => ⟨?_, (g5 z9).2⟩⟩
    · rw [up_ne (hl_ne (by decide)), up_ne (hl_ne (by decide))]
      by_cases e9 : i = h
      · rw [e9, up_at, un_at]
      · rw [up_ne (fun z9 => e9 ((hx_inj (by decide) (by decide)).mp z9).1), un_ne e9]
        exact g1
    · by_cases e9 : i = h
      · rw [e9, un_at]
        have := (g5 z9).1
        rw [e9] at this
        omega
      · rw [un_ne e9]
        exact (g5 z9).1
  · rw [up_ne (kl_ne (by decide)), up_ne (kl_ne (by decide)), up_ne (kh_ne hh (by decide))]
    exact j2 i hi
  · rw [up_ne (by decide), up_ne (by decide), up_lo (by decide)]
    exact j3
  · rw [up_ne (by decide), up_ne (by decide), up_lo (by decide)]
    exact j4
  · rw [up_ne (by decide), up_at]
/-- a day begins: none were carried today -/
theorem JN.day {nh nc t : Nat} {w : Nat → Int32} {a e z k : Nat → Nat} {x y p q c h : Nat} (g : JN nh nc t w a e z k x y p q c) (hh : h < 8) : JN nh nc t (up w (hx h 6) 0) a e (un z h 0) k x y p q c := by
  obtain ⟨j1, j2, ⟨j3, j4, j5, j6, j7⟩, j8⟩ := g
  refine ⟨fun i hi => ?_, fun i hi => ?_, ⟨?_, ?_, ?_, ?_, j7⟩, j8⟩
  · obtain ⟨g1, g2, g3, g4, g5⟩ := j1 i hi
    refine ⟨(up_ne (hh_ne (by decide) (by decide) (by decide))).trans g1, (up_ne (hh_ne (by decide) (by decide) (by decide))).trans g2, ?_, ?_, g5⟩
    · by_cases e9 : i = h
      · rw [e9, up_at, un_at, nI_0]
      · rw [up_ne (fun z9 => e9 ((hx_inj (by decide) (by decide)).mp z9).1), un_ne e9]
        exact g3
    · by_cases e9 : i = h
      · rw [e9, un_at]
        omega
      · rw [un_ne e9]
        exact g4
  · rw [up_ne (kh_ne hh (by decide))]
    exact j2 i hi
  · rw [up_lo (by decide)]
    exact j3
  · rw [up_lo (by decide)]
    exact j4
  · rw [up_lo (by decide)]
    exact j5
  · rw [up_lo (by decide)]
    exact j6
/-- a sack is carried up; it still counts for the cart -/
theorem JN.sack {nh nc t : Nat} {w : Nat → Int32} {a e z k : Nat → Nat} {x y p q c h b : Nat} (g : JN nh nc t w a e z k x y p q c) (hh : h < nh) (hb : b < nc) (hn : nh ≤ 8) (hm : nc ≤ 4) : JN nh nc (t + 1) (S_sack w b h) (un a h (a h + 3)) (un e h (e h + 1)) (un z h (z h + 1)) (un k b (k b + 1)) x y p q (c + 1) := by
  obtain ⟨j1, j2, ⟨j3, j4, j5, j6, j7⟩, j8, j9, j10, j11⟩ := g
  have h8 : h < 8 := by omega
  have ha := ns_un (f := a) (i := h) (v := a h + 3) 8 h8
  have he := ns_un (f := e) (i := h) (v := e h + 1) 8 h8
  have hk := ns_un (f := k) (i := b) (v := k b + 1) 4 (by omega)
  have lo : ∀ j, j < 14 → S_sack w b h j = w j := fun j hj => S_sack_lo h8 hj
  rw [S_sack_e h8] at lo ⊢
  refine ⟨fun i hi => ?_, fun i hi => ?_, ⟨(lo 4 (by decide)).trans j3, (lo 5 (by decide)).trans j4, (lo 7 (by decide)).trans j5, (lo 6 (by decide)).trans j6, j7⟩, by omega, by omega, by omega, by omega⟩
  · obtain ⟨g1, g2, g3, g4, g5⟩ := j1 i hi
    obtain ⟨f1, f2, f3, f4, f5⟩ := j1 h h8
    by_cases e9 : i = h
    · subst e9
      rw [un_at, un_at, un_at]
      refine ⟨?_, ?_, ?_, by omega, fun z9 => by omega⟩
      · rw [up_ne (hh_ne (by decide) (by decide) (by decide)), up_ne (hh_ne (by decide) (by decide) (by decide)), up_ne (hh_ne (by decide) (by decide) (by decide)), up_at, g1]
        exact nI_add _ 3
      · rw [up_at, g2]
        exact nI_1 _
      · rw [up_ne (hh_ne (by decide) (by decide) (by decide)), up_at, g3]
        exact nI_1 _
    · have nn : ∀ f f', f < 9 → f' < 9 → ¬ hx i f = hx h f' := fun f f' q1 q2 z9 => e9 ((hx_inj q1 q2).mp z9).1
      have kk : ∀ f f', f < 9 → ¬ hx i f = kx b f' := fun f f' q1 z9 => kh_ne hi q1 z9.symm
      rw [un_ne e9, un_ne e9, un_ne e9]
      refine ⟨?_, ?_, ?_, g4, g5⟩
      · rw [up_ne (nn _ _ (by decide) (by decide)), up_ne (nn _ _ (by decide) (by decide)), up_ne (nn _ _ (by decide) (by decide)), up_ne (nn _ _ (by decide) (by decide)), up_ne (nn _ _ (by decide) (by decide)), up_ne (kk _ _ (by decide)), up_ne (kk _ _ (by decide)), up_ne (kk _ _ (by decide))]
        exact g1
      · rw [up_ne (nn _ _ (by decide) (by decide)), up_ne (nn _ _ (by decide) (by decide)), up_ne (nn _ _ (by decide) (by decide)), up_ne (nn _ _ (by decide) (by decide)), up_ne (nn _ _ (by decide) (by decide)), up_ne (kk _ _ (by decide)), up_ne (kk _ _ (by decide)), up_ne (kk _ _ (by decide))]
        exact g2
      · rw [up_ne (nn _ _ (by decide) (by decide)), up_ne (nn _ _ (by decide) (by decide)), up_ne (nn _ _ (by decide) (by decide)), up_ne (nn _ _ (by decide) (by decide)), up_ne (nn _ _ (by decide) (by decide)), up_ne (kk _ _ (by decide)), up_ne (kk _ _ (by decide)), up_ne (kk _ _ (by decide))]
        exact g3
  · obtain ⟨g1, g2⟩ := j2 i hi
    have kh9 : ∀ f, f < 9 → ¬ kx i 3 = hx h f := fun f q1 => kh_ne h8 q1
    rw [up_ne (kh9 _ (by decide)), up_ne (kh9 _ (by decide)), up_ne (kh9 _ (by decide)), up_ne (kh9 _ (by decide)), up_ne (kh9 _ (by decide))]
    by_cases e9 : i = b
    · subst e9
      rw [up_at, un_at, g1]
      exact ⟨nI_1 _, fun z9 => by omega⟩
    · rw [up_ne (fun z9 => e9 ((kx_inj (by decide) (by decide)).mp z9).1), up_ne (kk_ne (by decide) (by decide) (by decide)), up_ne (kk_ne (by decide) (by decide) (by decide)), un_ne e9]
      exact ⟨g1, g2⟩
theorem Jn.sks {nh nc : Nat} {w : Nat → Int32} {h b : Nat} (g : Jn nh nc 0 w) (hh : h < nh) (hb : b < nc) (hn : nh ≤ 8) (hm : nc ≤ 4) : ∀ i, Jn nh nc i (S_sks w b h i)
  | 0 => g
  | i + 1 => by
    obtain ⟨a, e, z, k, x, y, p, q, c, j⟩ := Jn.sks g hh hb hn hm i
    exact ⟨_, _, _, _, _, _, _, _, _, j.sack hh hb hn hm⟩
/-- the sacks leave the cart -/
theorem JN.cart {nh nc t : Nat} {w : Nat → Int32} {a e z k : Nat → Nat} {x y p q c : Nat} (h : JN nh nc t w a e z k x y p q c) (hn : t ≤ x) : JN nh nc 0 (up w 4 (w 4 - nI t)) a e z k (x - t) y p q c := by
  obtain ⟨j1, j2, ⟨j3, j4, j5, j6, j7⟩, j8, j9, j10, j11⟩ := h
  rw [j3, pk_sub hn]
  refine ⟨fun i hi => ?_, fun i hi => ?_, ⟨up_at, ?_, ?_, ?_, j7⟩, j8, j9, by omega, j11⟩
  · rw [up_ne (hl_ne (by decide)), up_ne (hl_ne (by decide)), up_ne (hl_ne (by decide))]
    exact j1 i hi
  · rw [up_ne (kl_ne (by decide))]
    exact j2 i hi
  · rw [up_ne (by decide)]
    exact j4
  · rw [up_ne (by decide)]
    exact j5
  · rw [up_ne (by decide)]
    exact j6
theorem Jn.hday {nh nc t : Nat} {w : Nat → Int32} (h : Jn nh nc t w) {i : Nat} (hi : i < 8) : Jn nh nc t (S_hday w i) := by
  obtain ⟨a, e, z, k, x, y, p, q, c, h⟩ := h
  exact ⟨a, e, _, k, x, y, p, q, c, (h.day hi).u (Ir.h hi (by decide) (by decide) (by decide) (by decide))⟩
theorem Jn.dayh {nh nc t : Nat} {w : Nat → Int32} {nw : Bool} (h : Jn nh nc t w) : ∀ i, i ≤ 8 → Jn nh nc t (S_dayh w nw i)
  | 0, _ => h
  | i + 1, hi => by
    unfold S_dayh
    split
    · exact ((h.dayh i (by omega)).hday (by omega)).u (Ir.h (by omega) (by decide) (by decide) (by decide) (by decide))
    · exact (h.dayh i (by omega)).hday (by omega)
theorem Jn.dayc {nh nc t : Nat} {w : Nat → Int32} (h : Jn nh nc t w) : ∀ i, Jn nh nc t (S_dayc w i)
  | 0 => h
  | i + 1 => by
    unfold S_dayc S_cday
    exact ((h.dayc i).u (Ir.k (by decide) (by decide))).u (Ir.k (by decide) (by decide))
theorem Jn.dys {nh nc t a b : Nat} {w : Nat → Int32} (h : Jn nh nc t w) (ha : a ≤ 8) : ∀ i, Jn nh nc t (S_dys w a b i)
  | 0 => h
  | i + 1 => by
    unfold S_dys S_day
    exact (((h.dys ha i).u (Ir.l (by decide) (by decide) (by decide) (by decide) (by decide))).dayh a ha).dayc b
theorem Jn.upw {nh nc t : Nat} {w : Nat → Int32} {v : Int32} (h : Jn nh nc t w) : ∀ i, i ≤ 4 → Jn nh nc t (S_upw w v i)
  | 0, _ => h
  | i + 1, hi => by
    unfold S_upw
    exact (h.upw i (by omega)).u (Ir.l (by omega) (by omega) (by omega) (by omega) (by omega))
/-- what the coins' sum is behind a change: V of the new street -/
def DL (w w' : Nat → Int32) (v : Int32) : Prop := w 6 + w' 7 - w 7 - w' 6 = v
theorem DL.n {nh nc t : Nat} {w w' : Nat → Int32} (h : Jn nh nc t w) (h6 : w' 6 = w 6) (h7 : w' 7 = w 7) : DL w w' 0 := by
  obtain ⟨a, e, z, k, x, y, p, q, c, -, -, ⟨-, -, j5, j6, -⟩, -⟩ := h
  unfold DL
  rw [h6, h7, j5, j6, nI_add, pk_sub (Nat.le_add_left p q), Nat.add_sub_cancel, pk_sub (Nat.le_refl q), Nat.sub_self, nI_0]
