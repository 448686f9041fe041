/-! constructors: the history of streets -/
theorem kw_X2_11 : Cond.classLink RX2 11 RX5 ∈ WT := (wt_mem 201 (by decide +kernel) (by decide +kernel))
/-- the history's streets: the i-th at f (1 + 16 i), its things behind it -/
def hsA (f : Nat → Nat) (n : Nat) : EC := .inr (.object RX5, 9, fun j => if j < n then .ref (f (1 + 16 * j)) else .null)
def hsC (f : Nat → Nat) (C : Nat → EC) (i : Nat) : Prop := C 0 = hsA f i ∧ ∀ j, j < i → C (1 + 16 * j) = .inl (5, stF (fun m => f (2 + 16 * j + m))) ∧ stC (fun m => f (2 + 16 * j + m)) (fun m => C (2 + 16 * j + m)) 8 4
def hsF (f : Nat → Nat) : List Value := [.ref (f 0), .int 0, .int 0]
def hsP (B : Nat) (G : GH) (b : Nat) (r : Option Value) (G' : GH) : Prop := ∃ (f : Nat → Nat) (C : Nat → EC), r = none ∧ FOK B G 145 f b ∧ G' = FH G 145 f C b (.inl (2, hsF f)) ∧ hsC f C 9
theorem stF_c {f g : Nat → Nat} (h : ∀ m, m < 3 → f m = g m) : stF f = stF g := by
  unfold stF
  rw [h 0 (by decide), h 1 (by decide), h 2 (by decide)]
theorem stC_c {f g : Nat → Nat} {C D : Nat → EC} (h : ∀ m, m < 15 → f m = g m) (hC : ∀ m, m < 15 → C m = D m) (k : stC f C 8 4) : stC g D 8 4 := by
  obtain ⟨c0, c1, c2, c3, c4⟩ := k
  refine ⟨?_, ?_, ?_, fun j hj => ?_, fun j hj => ?_⟩
  · rw [← hC 0 (by decide), c0]
    exact congrArg (fun z => (Sum.inr (FieldType.object RX3, 8, z) : EC)) (ar8_c (fun j hj => h _ (by omega)))
  · rw [← hC 1 (by decide), c1]
    exact congrArg (fun z => (Sum.inr (FieldType.object RX0, 4, z) : EC)) (ar8_c (fun j hj => h _ (by omega)))
  · rw [← hC 2 (by decide), c2]
  · rw [← hC _ (by omega), c3 j hj]
  · rw [← hC _ (by omega), c4 j hj]
theorem hsA_s {f g : Nat → Nat} {n q : Nat} (h : n < 1000) (hg : ∀ j, j < n → f (1 + 16 * j) = g (1 + 16 * j)) (hq : g (1 + 16 * n) = q) : updV (fun j => if j < n then Value.ref (f (1 + 16 * j)) else .null) (nI n).toNatClampNeg (.ref q) = fun j => if j < n + 1 then Value.ref (g (1 + 16 * j)) else .null := by
  rw [nI_clamp (by omega : n < 2 ^ 31)]
  funext j
  unfold updV
  by_cases e : j = n
  · rw [if_pos e, if_pos (by omega), e, hq]
  · rw [if_neg e]
    show (if j < n then Value.ref (f (1 + 16 * j)) else Value.null) = _
    by_cases e2 : j < n
    · rw [if_pos e2, if_pos (by omega), hg j e2]
    · rw [if_neg e2, if_neg (by omega)]

set_option maxHeartbeats 4000000 in
set_option maxRecDepth 100000 in
theorem t_X2_init {D : va_G} {s0 : State} {l : Launch} {G : GH} {b : Nat} (hb : G b = some (.inl (2, [.null, .int 0, .int 0]))) : Tri D s0 l yX2_init cX2_init 2 (none) 2 145 1062 [.ref b] G (hsP s0.heap.size G b) noX := by
  refine Tri.ofV (own := RX2) (mn := "<init>") (by decide +kernel) rfl rfl (Nat.le_of_ble_eq_true rfl) ?_
  have loop : ∀ (n i : Nat) (f : Nat → Nat) (C : Nat → EC), i + n = 9 → FOK s0.heap.size G (1 + 16 * i) f b → hsC f C i → V D s0 RX2 "<init>" cX2_init 2 (none) [] l (rmd 2 145 1062) (Zm D s0 145 1062 (hsP s0.heap.size G b) noX) 15 [(0, .ref b), (1, .int (nI i))] [] (FH G (1 + 16 * i) f C b (.inl (2, hsF f))) (1 + 16 * i) (9 + 117 * i) := by
    intro n
    induction n with
    | zero =>
      intro i f C hi9 hf hC
      have hi4 : i = 9 := by omega
      subst hi4
      refine V_iload_n (i := 1) dX2_init_15 rfl rfl ?_
      refine V_bipush (v := nI 9) dX2_init_16 (by decide) ?_
      refine V_icmp_ge (tgt := 40) dX2_init_18 (by decide) (fun _ => ?_) (fun h => absurd (Int32.le_refl _) h)
      refine V_vret dX2_init_40 rfl (Nat.le_of_ble_eq_true rfl) (Nat.le_of_ble_eq_true rfl) ?_
      exact ⟨f, C, rfl, hf, rfl, hC⟩
    | succ n ih =>
      intro i f C hi9 hf hC
      obtain ⟨c0, c1⟩ := hC
      refine V_iload_n (i := 1) dX2_init_15 rfl rfl ?_
      refine V_bipush (v := nI 9) dX2_init_16 (by decide) ?_
      refine V_icmp_ge (tgt := 40) dX2_init_18 (by decide) (fun h => absurd h (nI_ge (by omega) (by omega))) (fun _ => ?_)
      refine V_aload_n (i := 0) dX2_init_21 rfl rfl ?_
      refine V_getf fl_X2_13 dX2_init_22 FH_b rfl ?_
      refine V_iload_n (i := 1) dX2_init_25 rfl rfl ?_
      refine V_new (ci := 5) (C := RX5) (T := TX5) (N := 13) (ty := tyX5) (fs := stZ) dX2_init_26 rfl uw_X5 tyX5_ok kw_X2_11 ib_X5 iz_X5 (by decide) (by show 1 + 16 * i + 1 ≤ 145; omega) (by show 9 + 117 * i + 13 ≤ 1062; omega) (fun q hq hn => ?_)
      have hf2 := FOK_new hf hn hq
      refine V.eqG (FH_new hf hn hq) ?_
      have kq : uf f (1 + 16 * i) q (1 + 16 * i) = q := if_pos rfl
      have a2 : FH G (1 + 16 * i + 1) (uf f (1 + 16 * i) q) (uc C (1 + 16 * i) (.inl (5, stZ))) b (.inl (2, hsF f)) q = some (.inl (5, stZ)) := by
        have := FH_f (C := uc C (1 + 16 * i) (.inl (5, stZ))) (cb := .inl (2, hsF f)) hf2 (show 1 + 16 * i < 1 + 16 * i + 1 by omega)
        rw [kq, show uc C (1 + 16 * i) (Sum.inl (5, stZ)) (1 + 16 * i) = .inl (5, stZ) from if_pos rfl] at this
        exact this
      refine V_dup dX2_init_29 rfl ?_
      refine V_callI (d := 2) ci_X2_17 rfl dX2_init_30 (t_X5_init a2) rfl rfl (Nat.le_of_ble_eq_true rfl) ⟨Nat.le_refl _, Nat.le_refl _⟩ (by decide) ⟨by show 1 + 16 * i + 1 + 15 ≤ 145; omega, by show 9 + 117 * i + 13 + 104 ≤ 1062; omega⟩ ?_ (fun _ _ h => h.elim)
      rintro r G' ⟨g, E, rfl, hg, rfl, hE⟩
      have hg2 : FOK s0.heap.size (FH G (1 + 16 * i + 1) (uf f (1 + 16 * i) q) (uc C (1 + 16 * i) (Sum.inl (5, stZ))) b (Sum.inl (2, hsF f))) 15 g (uf f (1 + 16 * i) q (1 + 16 * i)) := by rw [kq]; exact hg
      have hf3 := FOK_app (k := 1 + 16 * i) hf2 hg2
      have ea := FH_app (D := E) (c := .inl (5, stF g)) hf2 (show 1 + 16 * i < 1 + 16 * i + 1 by omega) hg2
      rw [kq] at ea
      refine V.eqG ea ?_
      generalize hF : apF (1 + 16 * i + 1) (uf f (1 + 16 * i) q) g = F at hf3 ea ⊢
      generalize hK : apC (1 + 16 * i + 1) (1 + 16 * i) (Sum.inl (5, stF g)) (uc C (1 + 16 * i) (Sum.inl (5, stZ))) E = K at ea ⊢
      have f1 : ∀ j, j < 1 + 16 * i → F j = f j := fun j hj => by rw [← hF, apF, if_pos (by omega), uf, if_neg (by omega)]
      have f2 : F (1 + 16 * i) = q := by rw [← hF, apF, if_pos (by omega), uf, if_pos rfl]
      have f3 : ∀ m, F (2 + 16 * i + m) = g m := fun m => by rw [← hF, apF, if_neg (by omega)]; congr 1; omega
      have k1 : ∀ j, j < 1 + 16 * i → K j = C j := fun j hj => by rw [← hK, apC, if_pos (by omega), if_neg (by omega), uc, if_neg (by omega)]
      have k2 : K (1 + 16 * i) = .inl (5, stF g) := by rw [← hK, apC, if_pos (by omega), if_pos rfl]
      have k3 : ∀ m, K (2 + 16 * i + m) = E m := fun m => by rw [← hK, apC, if_neg (by omega)]; congr 1; omega
      have hN : 1 + 16 * i + 1 + 15 = 1 + 16 * (i + 1) := by omega
      rw [hN] at hf3 ⊢
      have a1 : FH G (1 + 16 * (i + 1)) F K b (.inl (2, hsF f)) (f 0) = some (.inr (.object RX5, 9, fun j => if j < i then Value.ref (f (1 + 16 * j)) else .null)) := by
        have := FH_f (C := K) (cb := .inl (2, hsF f)) hf3 (show 0 < 1 + 16 * (i + 1) by omega)
        rw [f1 0 (by omega), k1 0 (by omega), c0] at this
        exact this
      have a4 : FH G (1 + 16 * (i + 1)) F K b (.inl (2, hsF f)) q = some (.inl (5, stF g)) := by
        have := FH_f (C := K) (cb := .inl (2, hsF f)) hf3 (show 1 + 16 * i < 1 + 16 * (i + 1) by omega)
        rw [f2, k2] at this
        exact this
      refine V_aast (ci := 5) (r := (RX5, TX5, 13)) dX2_init_33 a1 a4 rfl (vp_in_nI (by omega) (by decide)) ?_
      have a3 : gset (FH G (1 + 16 * (i + 1)) F K b (.inl (2, hsF f))) (f 0) (.inr (.object RX5, 9, updV (fun j => if j < i then Value.ref (f (1 + 16 * j)) else .null) (nI i).toNatClampNeg (.ref q))) = FH G (1 + 16 * (i + 1)) F (uc K 0 (hsA F (i + 1))) b (.inl (2, hsF F)) := by
        have := FH_st (C := K) (cb := .inl (2, hsF f)) (c := hsA F (i + 1)) hf3 (show 0 < 1 + 16 * (i + 1) by omega)
        rw [f1 0 (by omega)] at this
        rw [hsA_s (g := F) (by omega) (fun j hj => (f1 _ (by omega)).symm) f2, show hsF F = hsF f from by unfold hsF; rw [f1 0 (by omega)]]
        exact this
      refine V.eqG a3 ?_
      refine V_iinc (i := 1) dX2_init_34 rfl (inc1 _) (by decide) ?_
      refine V_goto (tgt := 15) dX2_init_37 (by decide) ?_
      refine V.fin [1, 0] rfl rfl (V.wid (k := 1 + 16 * (i + 1)) (n := 9 + 117 * (i + 1)) (by omega) (by omega) (ih (i + 1) F _ (by omega) hf3 ⟨rfl, fun j hj => ?_⟩))
      by_cases e : j = i
      · subst e
        refine ⟨?_, stC_c (fun m hm => (f3 m).symm) (fun m hm => ?_) hE⟩
        · rw [uc, if_neg (by omega), k2]
          exact congrArg (fun z => (Sum.inl (5, z) : EC)) (stF_c (fun m hm => (f3 m).symm))
        · rw [uc, if_neg (by omega), k3]
      · obtain ⟨u1, u2⟩ := c1 j (by omega)
        refine ⟨?_, stC_c (fun m hm => (f1 _ (by omega)).symm) (fun m hm => ?_) u2⟩
        · rw [uc, if_neg (by omega), k1 _ (by omega), u1]
          exact congrArg (fun z => (Sum.inl (5, z) : EC)) (stF_c (fun m hm => (f1 _ (by omega)).symm))
        · rw [uc, if_neg (by omega), k1 _ (by omega)]
  refine V_aload_n (i := 0) dX2_init_0 rfl rfl ?_
  refine V_objInit dX2_init_1 oi_X2 oi_in oi_code (Nat.le_of_ble_eq_true rfl) (Nat.le_of_ble_eq_true rfl) ?_
  refine V.eqG (FH_0 (f := fun _ => 0) (C := fun _ => wA4) hb) ?_
  have h0 : FOK s0.heap.size G 0 (fun _ => 0) b := FOK_0
  refine V_aload_n (i := 0) dX2_init_4 rfl rfl ?_
  refine V_bipush (v := 9) dX2_init_5 (by decide) ?_
  refine V_newq2 (C := RX5) (N := 9) dX2_init_7 kw_X2_11 ao_X5 (by decide) (by decide) (by decide) (Nat.le_of_ble_eq_true rfl) (Nat.le_of_ble_eq_true rfl) (fun q1 hq1 hn1 => ?_)
  have h1 := FOK_new h0 hn1 hq1
  refine V.eqG (FH_new h0 hn1 hq1) ?_
  refine V_putf (ty := .array (.object RX5)) fl_X2_13 dX2_init_10 FH_b (fun q9 hq9 => by cases hq9; first | exact Or.inl rfl | exact Or.inr ⟨rfl, rfl, rfl⟩) (fun q9 hq9 => by cases hq9; decide +kernel) rfl rfl (Nat.le_of_ble_eq_true rfl) ?_
  refine V.eqG FH_sb ?_
  refine V_iconst (v := nI 0) dX2_init_13 (by decide) ?_
  refine V_istore_n (i := 1) dX2_init_14 rfl (by decide) ?_
  refine V.fin [1, 0] rfl rfl (loop 9 0 _ _ rfl h1 ⟨?_, fun j hj => absurd hj (Nat.not_lt_zero j)⟩)
  exact congrArg (fun z => (Sum.inr (FieldType.object RX5, 9, z) : EC)) (funext fun j => (if_neg (Nat.not_lt_zero j)).symm)

