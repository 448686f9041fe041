/-! constructors: the face -/
theorem kw_X7_7 : Cond.classLink RX7 7 RX6 ∈ WT := (wt_mem 34 (by decide +kernel) (by decide +kernel))
theorem im_X6 : Cond.instanceMethod yX6_init ∈ WT := (wt_mem 37 (by decide +kernel) (by decide +kernel))
theorem ib_X6 : Cond.instantiable RX6 2 ∈ WT := (wt_mem 35 (by decide +kernel) (by decide +kernel))
theorem iz_X6 : Cond.initialized RX6 ∈ WT := (wt_mem 6 (by decide +kernel) (by decide +kernel))
theorem kw_X7_28 : Cond.classLink RX7 28 RX2 ∈ WT := (wt_mem 195 (by decide +kernel) (by decide +kernel))
theorem ib_X2 : Cond.instantiable RX2 3 ∈ WT := (wt_mem 196 (by decide +kernel) (by decide +kernel))
theorem iz_X2 : Cond.initialized RX2 ∈ WT := (wt_mem 11 (by decide +kernel) (by decide +kernel))
theorem kw_X7_35 : Cond.classLink RX7 35 RX5 ∈ WT := (wt_mem 215 (by decide +kernel) (by decide +kernel))
theorem kw_X7_41 : Cond.classLink RX7 41 RX1 ∈ WT := (wt_mem 217 (by decide +kernel) (by decide +kernel))
theorem im_X1 : Cond.instanceMethod yX1_init ∈ WT := (wt_mem 220 (by decide +kernel) (by decide +kernel))
theorem ib_X1 : Cond.instantiable RX1 8 ∈ WT := (wt_mem 218 (by decide +kernel) (by decide +kernel))
theorem iz_X1 : Cond.initialized RX1 ∈ WT := (wt_mem 12 (by decide +kernel) (by decide +kernel))
theorem kw_X7_52 : Cond.classLink RX7 52 RJ4 ∈ WT := (wt_mem 246 (by decide +kernel) (by decide +kernel))
theorem ib_J4 : Cond.instantiable RJ4 4 ∈ WT := (wt_mem 247 (by decide +kernel) (by decide +kernel))
theorem iz_J4 : Cond.initialized RJ4 ∈ WT := (wt_mem 14 (by decide +kernel) (by decide +kernel))
theorem FH_step {B : Nat} {G : GH} {n : Nat} {f : Nat → Nat} {C : Nat → EC} {b : Nat} {cb : EC} (h : FOK B G n f b) {q : Nat} (hq : FH G n f C b cb q = none) (hB : B ≤ q) {z c : EC} {m : Nat} {g : Nat → Nat} {E : Nat → EC} (hg : FOK B (gset (FH G n f C b cb) q z) m g q) : ∃ (F : Nat → Nat) (K : Nat → EC), FOK B G (n + 1 + m) F b ∧ FH (gset (FH G n f C b cb) q z) m g E q c = FH G (n + 1 + m) F K b cb ∧ (∀ j, j < n → F j = f j) ∧ F n = q ∧ (∀ j, F (n + 1 + j) = g j) ∧ (∀ j, j < n → K j = C j) ∧ K n = c ∧ ∀ j, K (n + 1 + j) = E j := by
  have h1 := FOK_new h hq hB
  have kq : uf f n q n = q := if_pos rfl
  rw [FH_new h hq hB] at hg ⊢
  have hg2 : FOK B (FH G (n + 1) (uf f n q) (uc C n z) b cb) m g (uf f n q n) := by rw [kq]; exact hg
  have ea := FH_app (D := E) (c := c) h1 (Nat.lt_succ_self n) hg2
  rw [kq] at ea
  refine ⟨_, _, FOK_app h1 hg2, ea, fun j hj => ?_, ?_, fun j => ?_, fun j hj => ?_, ?_, fun j => ?_⟩
  · rw [apF, if_pos (by omega), uf, if_neg (by omega)]
  · rw [apF, if_pos (by omega), uf, if_pos rfl]
  · rw [apF, if_neg (by omega), Nat.add_sub_cancel_left]
  · rw [apC, if_pos (by omega), if_neg (by omega), uc, if_neg (by omega)]
  · rw [apC, if_pos (by omega), if_pos rfl]
  · rw [apC, if_neg (by omega), Nat.add_sub_cancel_left]
theorem wkC_c {f g : Nat → Nat} {C D : Nat → EC} (h : ∀ m, m < 17 → f m = g m) (hC : ∀ m, m < 17 → C m = D m) (k : wkC f C) : wkC g D := by
  obtain ⟨c0, c1, c2⟩ := k
  refine ⟨?_, stC_c (fun m hm => h _ (by omega)) (fun m hm => hC _ (by omega)) c1, ?_⟩
  · rw [← hC 0 (by decide), c0]
    exact congrArg (fun z => (Sum.inl (5, z) : EC)) (stF_c (fun m hm => h _ (by omega)))
  · rw [← hC 16 (by decide), c2]
theorem hsC_c {f g : Nat → Nat} {C D : Nat → EC} (h : ∀ m, m < 145 → f m = g m) (hC : ∀ m, m < 145 → C m = D m) (k : hsC f C 9) : hsC g D 9 := by
  obtain ⟨c0, c1⟩ := k
  refine ⟨?_, fun j hj => ?_⟩
  · rw [← hC 0 (by decide), c0]
    refine congrArg (fun z => (Sum.inr (FieldType.object RX5, 9, z) : EC)) (funext fun j => ?_)
    by_cases e : j < 9
    · rw [if_pos e, if_pos e, h _ (by omega)]
    · rw [if_neg e, if_neg e]
  · obtain ⟨u1, u2⟩ := c1 j hj
    refine ⟨?_, stC_c (fun m hm => h _ (by omega)) (fun m hm => hC _ (by omega)) u2⟩
    rw [← hC _ (by omega), u1]
    exact congrArg (fun z => (Sum.inl (5, z) : EC)) (stF_c (fun m hm => h _ (by omega)))
def fcF (f : Nat → Nat) : List Value := [.ref (f 0), .ref (f 1), .ref (f 17), .ref (f 18), .ref (f 164), .int 0, .ref (f 180), .int (-1), .ref (f 185)]
def fcC (f : Nat → Nat) (C : Nat → EC) : Prop := C 0 = .inl (6, wkF (fun m => f (1 + m))) ∧ wkC (fun m => f (1 + m)) (fun m => C (1 + m)) ∧ C 18 = .inl (2, hsF (fun m => f (19 + m))) ∧ hsC (fun m => f (19 + m)) (fun m => C (19 + m)) 9 ∧ C 164 = .inl (5, stF (fun m => f (165 + m))) ∧ stC (fun m => f (165 + m)) (fun m => C (165 + m)) 8 4 ∧ C 180 = .inl (1, txF (fun m => f (181 + m))) ∧ (C 181 = ch60 ∧ C 182 = in30 ∧ C 183 = in30 ∧ C 184 = in30) ∧ C 185 = .inl (8, [.ref (f 186), .int 0, .int 0, .int 0]) ∧ C 186 = .inr (.byte, 16, fun _ => .int 0)
def fcP (B : Nat) (G : GH) (b : Nat) (r : Option Value) (G' : GH) : Prop := ∃ (f : Nat → Nat) (C : Nat → EC), r = none ∧ FOK B G 187 f b ∧ G' = FH G 187 f C b (.inl (7, fcF f)) ∧ fcC f C

set_option maxHeartbeats 4000000 in
set_option maxRecDepth 100000 in
theorem t_X7_init {D : va_G} {s0 : State} {l : Launch} {G : GH} {b : Nat} (hb : G b = some (.inl (7, [.null, .null, .null, .null, .null, .int 0, .null, .int 0, .null]))) : Tri D s0 l yX7_init cX7_init 1 (none) 3 187 1482 [.ref b] G (fcP s0.heap.size G b) noX := by
  refine Tri.ofV (own := RX7) (mn := "<init>") (by decide +kernel) rfl rfl (Nat.le_of_ble_eq_true rfl) ?_
  refine V_aload_n (i := 0) dX7_init_0 rfl rfl ?_
  refine V_objInit dX7_init_1 oi_X7 oi_in oi_code (Nat.le_of_ble_eq_true rfl) (Nat.le_of_ble_eq_true rfl) ?_
  refine V.eqG (FH_0 (f := fun _ => 0) (C := fun _ => wA4) hb) ?_
  have h0 : FOK s0.heap.size G 0 (fun _ => 0) b := FOK_0
  refine V_aload_n (i := 0) dX7_init_4 rfl rfl ?_
  refine V_new (ci := 6) (C := RX6) (T := TX6) (N := 2) (ty := tyX6) (fs := [.null, .null]) dX7_init_5 rfl uw_X6 tyX6_ok kw_X7_7 ib_X6 iz_X6 (by decide) (Nat.le_of_ble_eq_true rfl) (Nat.le_of_ble_eq_true rfl) (fun qw hqw hnw => ?_)
  refine V_dup dX7_init_8 rfl ?_
  refine V_callIN (d := 3) cn_X7_9 im_X6 rfl dX7_init_9 (t_X6_init (if_pos rfl)) rfl rfl (Nat.le_of_ble_eq_true rfl) ⟨Nat.le_refl _, Nat.le_refl _⟩ (by decide) ⟨(Nat.le_of_ble_eq_true rfl), (Nat.le_of_ble_eq_true rfl)⟩ ?_ (fun _ _ h => h.elim)
  rintro r G' ⟨gw, Ew, rfl, hgw, rfl, pw⟩
  obtain ⟨Fw, Kw, hw, ew, f1w, f2w, f3w, k1w, k2w, k3w⟩ := FH_step (E := Ew) (c := .inl (6, wkF gw)) h0 hnw hqw hgw
  refine V.eqG ew ?_
  refine V_putf (ty := .object RX6) fl_X7_10 dX7_init_12 FH_b (fun q9 hq9 => by cases hq9; first | exact Or.inl rfl | exact Or.inr ⟨rfl, rfl, rfl⟩) (fun q9 hq9 => by cases hq9; decide +kernel) rfl rfl (Nat.le_of_ble_eq_true rfl) ?_
  refine V.eqG FH_sb ?_
  have aw : ∀ cb : EC, FH G (0 + 1 + 17) Fw Kw b cb qw = some (.inl (6, wkF gw)) := fun cb => by
    have := FH_f (C := Kw) (cb := cb) hw (show 0 < 0 + 1 + 17 by decide)
    rw [f2w, k2w] at this
    exact this
  refine V_aload_n (i := 0) dX7_init_15 rfl rfl ?_
  refine V_aload_n (i := 0) dX7_init_16 rfl rfl ?_
  refine V_getf fl_X7_10 dX7_init_17 FH_b rfl ?_
  refine V_getf fl_X7_16 dX7_init_20 (aw _) rfl ?_
  refine V_putf (ty := .object RX5) fl_X7_20 dX7_init_23 FH_b (fun q9 hq9 => by cases hq9; first | exact Or.inl rfl | exact Or.inr ⟨rfl, rfl, rfl⟩) (fun q9 hq9 => by cases hq9; decide +kernel) rfl rfl (Nat.le_of_ble_eq_true rfl) ?_
  refine V.eqG FH_sb ?_
  refine V_aload_n (i := 0) dX7_init_26 rfl rfl ?_
  refine V_aload_n (i := 0) dX7_init_27 rfl rfl ?_
  refine V_getf fl_X7_10 dX7_init_28 FH_b rfl ?_
  refine V_getf fl_X7_21 dX7_init_31 (aw _) rfl ?_
  refine V_putf (ty := .object RX4) fl_X7_25 dX7_init_34 FH_b (fun q9 hq9 => by cases hq9; first | exact Or.inl rfl | exact Or.inr ⟨rfl, rfl, rfl⟩) (fun q9 hq9 => by cases hq9; decide +kernel) rfl rfl (Nat.le_of_ble_eq_true rfl) ?_
  refine V.eqG FH_sb ?_
  refine V_aload_n (i := 0) dX7_init_37 rfl rfl ?_
  refine V_new (ci := 2) (C := RX2) (T := TX2) (N := 3) (ty := tyX2) (fs := [.null, .int 0, .int 0]) dX7_init_38 rfl uw_X2 tyX2_ok kw_X7_28 ib_X2 iz_X2 (by decide) (Nat.le_of_ble_eq_true rfl) (Nat.le_of_ble_eq_true rfl) (fun qh hqh hnh => ?_)
  refine V_dup dX7_init_41 rfl ?_
  refine V_callI (d := 3) ci_X7_30 rfl dX7_init_42 (t_X2_init (if_pos rfl)) rfl rfl (Nat.le_of_ble_eq_true rfl) ⟨Nat.le_refl _, Nat.le_refl _⟩ (by decide) ⟨(Nat.le_of_ble_eq_true rfl), (Nat.le_of_ble_eq_true rfl)⟩ ?_ (fun _ _ h => h.elim)
  rintro r G' ⟨gh, Eh, rfl, hgh, rfl, ph⟩
  obtain ⟨Fh, Kh, hh9, eh, f1h, f2h, f3h, k1h, k2h, k3h⟩ := FH_step (E := Eh) (c := .inl (2, hsF gh)) hw hnh hqh hgh
  refine V.eqG eh ?_
  refine V_putf (ty := .object RX2) fl_X7_31 dX7_init_45 FH_b (fun q9 hq9 => by cases hq9; first | exact Or.inl rfl | exact Or.inr ⟨rfl, rfl, rfl⟩) (fun q9 hq9 => by cases hq9; decide +kernel) rfl rfl (Nat.le_of_ble_eq_true rfl) ?_
  refine V.eqG FH_sb ?_
  refine V_aload_n (i := 0) dX7_init_48 rfl rfl ?_
  refine V_new (ci := 5) (C := RX5) (T := TX5) (N := 13) (ty := tyX5) (fs := stZ) dX7_init_49 rfl uw_X5 tyX5_ok kw_X7_35 ib_X5 iz_X5 (by decide) (Nat.le_of_ble_eq_true rfl) (Nat.le_of_ble_eq_true rfl) (fun qs hqs hns => ?_)
  refine V_dup dX7_init_52 rfl ?_
  refine V_callI (d := 3) ci_X7_37 rfl dX7_init_53 (t_X5_init (if_pos rfl)) rfl rfl (Nat.le_of_ble_eq_true rfl) ⟨Nat.le_refl _, Nat.le_refl _⟩ (by decide) ⟨(Nat.le_of_ble_eq_true rfl), (Nat.le_of_ble_eq_true rfl)⟩ ?_ (fun _ _ h => h.elim)
  rintro r G' ⟨gs, Es, rfl, hgs, rfl, ps⟩
  obtain ⟨Fs, Ks, hs9, es, f1s, f2s, f3s, k1s, k2s, k3s⟩ := FH_step (E := Es) (c := .inl (5, stF gs)) hh9 hns hqs hgs
  refine V.eqG es ?_
  refine V_putf (ty := .object RX5) fl_X7_38 dX7_init_56 FH_b (fun q9 hq9 => by cases hq9; first | exact Or.inl rfl | exact Or.inr ⟨rfl, rfl, rfl⟩) (fun q9 hq9 => by cases hq9; decide +kernel) rfl rfl (Nat.le_of_ble_eq_true rfl) ?_
  refine V.eqG FH_sb ?_
  refine V_aload_n (i := 0) dX7_init_59 rfl rfl ?_
  refine V_new (ci := 1) (C := RX1) (T := TX1) (N := 8) (ty := tyX1) (fs := [.null, .null, .null, .null, .int 0, .int 0, .int 0, .int 0]) dX7_init_60 rfl uw_X1 tyX1_ok kw_X7_41 ib_X1 iz_X1 (by decide) (Nat.le_of_ble_eq_true rfl) (Nat.le_of_ble_eq_true rfl) (fun qt hqt hnt => ?_)
  refine V_dup dX7_init_63 rfl ?_
  refine V_callIN (d := 3) cn_X7_43 im_X1 rfl dX7_init_64 (t_X1_init (if_pos rfl)) rfl rfl (Nat.le_of_ble_eq_true rfl) ⟨Nat.le_refl _, Nat.le_refl _⟩ (by decide) ⟨(Nat.le_of_ble_eq_true rfl), (Nat.le_of_ble_eq_true rfl)⟩ ?_ (fun _ _ h => h.elim)
  rintro r G' ⟨gt, Et, rfl, hgt, rfl, pt0, pt1, pt2, pt3⟩
  obtain ⟨Ft, Kt, ht9, et, f1t, f2t, f3t, k1t, k2t, k3t⟩ := FH_step (E := Et) (c := .inl (1, txF gt)) hs9 hnt hqt hgt
  refine V.eqG et ?_
  refine V_putf (ty := .object RX1) fl_X7_44 dX7_init_67 FH_b (fun q9 hq9 => by cases hq9; first | exact Or.inl rfl | exact Or.inr ⟨rfl, rfl, rfl⟩) (fun q9 hq9 => by cases hq9; decide +kernel) rfl rfl (Nat.le_of_ble_eq_true rfl) ?_
  refine V.eqG FH_sb ?_
  refine V_aload_n (i := 0) dX7_init_70 rfl rfl ?_
  refine V_iconst (v := (-1)) dX7_init_71 (by decide) ?_
  refine V_putf (ty := .int) fl_X7_48 dX7_init_72 FH_b (fun q9 hq9 => by cases hq9; first | exact Or.inl rfl | exact Or.inr ⟨rfl, rfl, rfl⟩) (fun q9 hq9 => by cases hq9; decide +kernel) rfl rfl (Nat.le_of_ble_eq_true rfl) ?_
  refine V.eqG FH_sb ?_
  refine V_aload_n (i := 0) dX7_init_75 rfl rfl ?_
  refine V_new (ci := 8) (C := RJ4) (T := TJ4) (N := 4) (ty := tyJ4) (fs := [.null, .int 0, .int 0, .int 0]) dX7_init_76 rfl uw_J4 tyJ4_ok kw_X7_52 ib_J4 iz_J4 (by decide) (Nat.le_of_ble_eq_true rfl) (Nat.le_of_ble_eq_true rfl) (fun qb hqb hnb => ?_)
  refine V_dup dX7_init_79 rfl ?_
  refine V_callI (d := 3) ci_X7_54 rfl dX7_init_80 (t_J4_init_da8c8 (if_pos rfl)) rfl rfl (Nat.le_of_ble_eq_true rfl) ⟨Nat.le_refl _, Nat.le_refl _⟩ (by decide) ⟨(Nat.le_of_ble_eq_true rfl), (Nat.le_of_ble_eq_true rfl)⟩ ?_ (fun _ _ h => h.elim)
  rintro r G' ⟨gb, Eb, rfl, hgb, rfl, pb⟩
  obtain ⟨Fb, Kb, hb9, eb, f1b, f2b, f3b, k1b, k2b, k3b⟩ := FH_step (E := Eb) (c := .inl (8, [.ref (gb 0), .int 0, .int 0, .int 0])) ht9 hnb hqb hgb
  refine V.eqG eb ?_
  refine V_putf (ty := .object RJ4) fl_X7_55 dX7_init_83 FH_b (fun q9 hq9 => by cases hq9; first | exact Or.inl rfl | exact Or.inr ⟨rfl, rfl, rfl⟩) (fun q9 hq9 => by cases hq9; decide +kernel) rfl rfl (Nat.le_of_ble_eq_true rfl) ?_
  refine V.eqG FH_sb ?_
  refine V_vret dX7_init_86 rfl (Nat.le_of_ble_eq_true rfl) (Nat.le_of_ble_eq_true rfl) ?_
  have fw : ∀ m, m < 17 → Fb (1 + m) = gw m := fun m hm => by rw [f1b _ (by omega), f1t _ (by omega), f1s _ (by omega), f1h _ (by omega)]; exact f3w m
  have fh : ∀ m, m < 145 → Fb (19 + m) = gh m := fun m hm => by rw [f1b _ (by omega), f1t _ (by omega), f1s _ (by omega)]; exact f3h m
  have fs : ∀ m, m < 15 → Fb (165 + m) = gs m := fun m hm => by rw [f1b _ (by omega), f1t _ (by omega)]; exact f3s m
  have ft : ∀ m, m < 4 → Fb (181 + m) = gt m := fun m hm => by rw [f1b _ (by omega)]; exact f3t m
  have fb : Fb 186 = gb 0 := f3b 0
  have kw : ∀ m, m < 17 → Kb (1 + m) = Ew m := fun m hm => by rw [k1b _ (by omega), k1t _ (by omega), k1s _ (by omega), k1h _ (by omega)]; exact k3w m
  have kh : ∀ m, m < 145 → Kb (19 + m) = Eh m := fun m hm => by rw [k1b _ (by omega), k1t _ (by omega), k1s _ (by omega)]; exact k3h m
  have ks : ∀ m, m < 15 → Kb (165 + m) = Es m := fun m hm => by rw [k1b _ (by omega), k1t _ (by omega)]; exact k3s m
  have kt : ∀ m, m < 4 → Kb (181 + m) = Et m := fun m hm => by rw [k1b _ (by omega)]; exact k3t m
  have z0 : Fb 0 = qw := by rw [f1b _ (by decide), f1t _ (by decide), f1s _ (by decide), f1h _ (by decide)]; exact f2w
  have z18 : Fb 18 = qh := by rw [f1b _ (by decide), f1t _ (by decide), f1s _ (by decide)]; exact f2h
  have z164 : Fb 164 = qs := by rw [f1b _ (by decide), f1t _ (by decide)]; exact f2s
  have z180 : Fb 180 = qt := by rw [f1b _ (by decide)]; exact f2t
  have z185 : Fb 185 = qb := f2b
  refine ⟨Fb, Kb, rfl, hb9, ?_, ?_, wkC_c (fun m hm => (fw m hm).symm) (fun m hm => (kw m hm).symm) pw, ?_, hsC_c (fun m hm => (fh m hm).symm) (fun m hm => (kh m hm).symm) ph, ?_, stC_c (fun m hm => (fs m hm).symm) (fun m hm => (ks m hm).symm) ps, ?_, ⟨(kt 0 (by decide)).trans pt0, (kt 1 (by decide)).trans pt1, (kt 2 (by decide)).trans pt2, (kt 3 (by decide)).trans pt3⟩, ?_, ?_⟩
  · refine congrArg (fun z => FH G 187 Fb Kb b (.inl (7, z))) ?_
    unfold fcF
    rw [z0, z18, z164, z180, z185, fw 0 (by decide), fw 16 (by decide)]
    rfl
  · rw [k1b _ (by decide), k1t _ (by decide), k1s _ (by decide), k1h _ (by decide)]
    refine k2w.trans (congrArg (fun z => (Sum.inl (6, z) : EC)) ?_)
    unfold wkF
    rw [← fw 0 (by decide), ← fw 16 (by decide)]
  · rw [k1b _ (by decide), k1t _ (by decide), k1s _ (by decide)]
    refine k2h.trans (congrArg (fun z => (Sum.inl (2, z) : EC)) ?_)
    unfold hsF
    rw [← fh 0 (by decide)]
  · rw [k1b _ (by decide), k1t _ (by decide)]
    exact k2s.trans (congrArg (fun z => (Sum.inl (5, z) : EC)) (stF_c (fun m hm => (fs m (by omega)).symm)))
  · rw [k1b _ (by decide)]
    refine k2t.trans (congrArg (fun z => (Sum.inl (1, z) : EC)) ?_)
    unfold txF
    rw [← ft 0 (by decide), ← ft 1 (by decide), ← ft 2 (by decide), ← ft 3 (by decide)]
  · rw [fb]
    exact k2b
  · exact (k3b 0).trans pb

