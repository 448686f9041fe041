/-! the law: its things are made -/
theorem dL_law_0 : decode cL_law 0 = .ok (.new 8, 3) := by decide +kernel
theorem dL_law_3 : decode cL_law 3 = .ok (.dup, 1) := by decide +kernel
theorem dL_law_4 : decode cL_law 4 = .ok (.invokespecial 122, 3) := by decide +kernel
theorem dL_law_7 : decode cL_law 7 = .ok (.astore_n 1, 1) := by decide +kernel
theorem dL_law_8 : decode cL_law 8 = .ok (.new 123, 3) := by decide +kernel
theorem dL_law_11 : decode cL_law 11 = .ok (.dup, 1) := by decide +kernel
theorem dL_law_12 : decode cL_law 12 = .ok (.invokespecial 125, 3) := by decide +kernel
theorem dL_law_15 : decode cL_law 15 = .ok (.astore_n 2, 1) := by decide +kernel
theorem dL_law_16 : decode cL_law 16 = .ok (.iconst 1, 1) := by decide +kernel
theorem dL_law_17 : decode cL_law 17 = .ok (.newarray .long, 2) := by decide +kernel
theorem dL_law_19 : decode cL_law 19 = .ok (.astore_n 3, 1) := by decide +kernel
theorem dL_law_20 : decode cL_law 20 = .ok (.iconst 1, 1) := by decide +kernel
theorem dL_law_21 : decode cL_law 21 = .ok (.newarray .double, 2) := by decide +kernel
theorem dL_law_23 : decode cL_law 23 = .ok (.astore 4, 2) := by decide +kernel
theorem kl_8 : Cond.classLink RL 8 RX7 ∈ WT := (wt_mem 79 (by decide +kernel) (by decide +kernel))
theorem kl_123 : Cond.classLink RL 123 RX8 ∈ WT := (wt_mem 1412 (by decide +kernel) (by decide +kernel))
theorem ib_X7 : Cond.instantiable RX7 9 ∈ WT := (wt_mem 80 (by decide +kernel) (by decide +kernel))
theorem ib_X8 : Cond.instantiable RX8 23 ∈ WT := (wt_mem 1413 (by decide +kernel) (by decide +kernel))
theorem ac_long : Cond.arrayClass .long ∈ WT := (wt_mem 1803 (by decide +kernel) (by decide +kernel))
theorem ac_double : Cond.arrayClass .double ∈ WT := (wt_mem 1804 (by decide +kernel) (by decide +kernel))
set_option maxHeartbeats 4000000 in
set_option maxRecDepth 100000 in
theorem law_start {D : va_G} {s0 : State} {mn : String} {nL : Nat} {ret : Option FieldType} {hh : List (Nat × Nat × Nat × Nat)} {l : Launch} {R : Room} {Z : ZT} {arg : Nat} (hfr : 16 * 12 ≤ R.frames) (hlo : 400 * 12 ≤ R.locals) (hce : 300 ≤ R.cells) (hsl : 4000 ≤ R.slots)
    (k : ∀ (A : AT) (f : Nat → Nat), AOK s0.heap.size A → nA A (f 186) → V D s0 RL mn cL_law nL ret hh l R Z 25 [(0, .ref arg), (1, .ref (A 0 0 0)), (2, .ref (A 20 0 0)), (3, .ref (A 30 0 0)), (4, .ref (A 31 0 0))] [] (HP A (sg0 f)) 300 4000) (hnL : 8 ≤ nL) : V D s0 RL mn cL_law nL ret hh l R Z 0 [(0, .ref arg)] [] (fun _ => none) 0 0 := by
  refine V_new (ci := 7) (C := RX7) (T := TX7) (N := 9) (ty := tyX7) (fs := [.null, .null, .null, .null, .null, .int 0, .null, .int 0, .null]) dL_law_0 rfl uw_X7 tyX7_ok kl_8 ib_X7 in_X7 (by decide) (by omega) (by omega) (fun b1 hq1 hn1 => ?_)
  refine V_dup dL_law_3 rfl ?_
  refine V_callI (d := 10) ci_L_122 rfl dL_law_4 (t_X7_init (if_pos rfl)) rfl rfl (Nat.le_of_ble_eq_true rfl) ⟨by omega, by omega⟩ (by decide) ⟨by omega, by omega⟩ ?_ (fun _ _ h => h.elim)
  rintro r G' ⟨f, C, rfl, hF, rfl, hC⟩
  refine V_astore_n (i := 1) dL_law_7 rfl (by omega) ?_
  refine V_new (ci := 8) (C := RX8) (T := TX8) (N := 23) (ty := tyX8) (fs := moZ) dL_law_8 rfl uw_X8 tyX8_ok kl_123 ib_X8 in_X8 (by decide) (by omega) (by omega) (fun b2 hq2 hn2 => ?_)
  refine V_dup dL_law_11 rfl ?_
  refine V_callI (d := 10) ci_L_125 rfl dL_law_12 (t_X8_init (if_pos rfl)) rfl rfl (Nat.le_of_ble_eq_true rfl) ⟨by omega, by omega⟩ (by decide) ⟨by omega, by omega⟩ ?_ (fun _ _ h => h.elim)
  rintro r G' ⟨g, E, rfl, hG, rfl, hE⟩
  refine V_astore_n (i := 2) dL_law_15 rfl (by omega) ?_
  refine V_iconst (v := 1) dL_law_16 (by decide) ?_
  refine V_newa (ty := .long) (N := 1) dL_law_17 ac_long rfl (by decide) (by decide) (by decide) (by omega) (by omega) (fun C z => by cases z) (fun l1 hq3 hn3 => ?_)
  refine V_astore_n (i := 3) dL_law_19 rfl (by omega) ?_
  refine V_iconst (v := 1) dL_law_20 (by decide) ?_
  refine V_newa (ty := .double) (N := 1) dL_law_21 ac_double rfl (by decide) (by decide) (by decide) (by omega) (by omega) (fun C z => by cases z) (fun l2 hq4 hn4 => ?_)
  refine V_astore (i := 4) dL_law_23 (by omega) ?_
  obtain ⟨u1, u2, -⟩ := FH_none hF hn2
  have pg : ∀ a, gset (FH (gset (fun _ => none) b1 (.inl (7, [.null, .null, .null, .null, .null, .int 0, .null, .int 0, .null]))) 187 f C b1 (.inl (7, fcF f))) b2 (.inl (8, moZ)) a = none → ¬ a = b2 ∧ ¬ a = b1 ∧ ∀ i, i < 187 → ¬ f i = a := fun a h => by
    have n2 : ¬ a = b2 := fun z => by
      unfold gset at h
      rw [if_pos z] at h
      cases h
    have h2 : FH (gset (fun _ => none) b1 (.inl (7, [.null, .null, .null, .null, .null, .int 0, .null, .int 0, .null]))) 187 f C b1 (.inl (7, fcF f)) a = none := by
      unfold gset at h
      rw [if_neg n2] at h
      exact h
    obtain ⟨w1, w2, -⟩ := FH_none hF h2
    exact ⟨n2, w1, w2⟩
  obtain ⟨v1, v2, v3⟩ := FH_none hG hn3
  obtain ⟨v4, v5, v6⟩ := pg l1 v3
  have x1 : ¬ l2 = l1 := fun z => by
    unfold gset at hn4
    rw [if_pos z] at hn4
    cases hn4
  have hn4' := hn4
  unfold gset at hn4'
  rw [if_neg x1] at hn4'
  obtain ⟨y1, y2, y3⟩ := FH_none hG hn4'
  obtain ⟨y4, y5, y6⟩ := pg l2 y3
  have gd : ∀ i, i < 8 → ¬ g i = b2 ∧ s0.heap.size ≤ g i ∧ ¬ g i = b1 ∧ ∀ j, j < 187 → ¬ f j = g i := fun i hi => by
    obtain ⟨w1, w2, w3⟩ := hG.1 i hi
    obtain ⟨w4, w5, w6⟩ := pg _ w2
    exact ⟨w1, w3, w5, w6⟩
  have hA : AdP s0.heap.size b1 f b2 g l1 l2 := ⟨⟨hq1, hq2, hq3, hq4⟩, fun i hi => ⟨(hF.1 i hi).2.2, (hF.1 i hi).1, u2 i hi, v6 i hi, y6 i hi⟩, fun i hi => ⟨(gd i hi).2.1, (gd i hi).2.2.1, (gd i hi).1, v2 i hi, y2 i hi⟩, hF.2, hG.2, fun i j hi hj => (gd j hj).2.2.2 i hi, fun z => u1 z.symm, fun z => v5 z.symm, fun z => y5 z.symm, fun z => v1 z.symm, fun z => y1 z.symm, fun z => x1 z.symm⟩
  have lk9 : ∀ (H : GH) (x y : EC) (a : Nat), ¬ a = l1 → ¬ a = l2 → gset (gset H l1 x) l2 y a = H a := fun H x y a h1 h2 => by
    unfold gset
    rw [if_neg h2, if_neg h1]
  have hOK := atA_ok hA
  refine V.sub2 (G' := HP (atA b1 f b2 g l1 l2) (sg0 f)) (start_sub (B := 0) (C := C) (E := E) ?_ (fun i hi => ?_) hC ?_ (fun i hi => ?_) hE ?_ ?_) ?_
  · rw [lk9 _ _ _ _ (fun z => v5 z.symm) (fun z => y5 z.symm), FH_o (fun z => u1 z.symm) (fun i hi => (gd i hi).2.2.1)]
    unfold gset
    rw [if_neg (fun z => u1 z.symm)]
    exact FH_b
  · rw [lk9 _ _ _ _ (v6 i hi) (y6 i hi), FH_o (u2 i hi) (fun j hj z => (gd j hj).2.2.2 i hi z.symm)]
    show gset _ b2 _ (f i) = _
    unfold gset
    rw [if_neg (u2 i hi)]
    exact FH_f hF hi
  · rw [lk9 _ _ _ _ (fun z => v1 z.symm) (fun z => y1 z.symm)]
    exact FH_b
  · rw [lk9 _ _ _ _ (v2 i hi) (y2 i hi)]
    exact FH_f hG hi
  · unfold gset
    rw [if_neg (fun z => x1 z.symm), if_pos rfl]
    rfl
  · unfold gset
    rw [if_pos rfl]
    rfl
  · refine V.fin [4, 3, 2, 1, 0] rfl rfl (V.wid (k := 300) (n := 4000) (by decide) (by decide) (k (atA b1 f b2 g l1 l2) f hOK ?_))
    intro kd kk i hv e
    obtain ⟨a1, a2, a3⟩ := vl_b hv
    have hx := iv_ix kd a1 kk a2 i a3 hv
    have e2 : mA b1 f b2 g l1 l2 (ix kd kk i) = mA b1 f b2 g l1 l2 (1 + 186) := e.trans (mA_f (by decide)).symm
    have e3 := mA_inj hA hx.2 (by decide) e2
    rw [e3] at hx
    have e5 : ((19 : Nat), (0 : Nat), (0 : Nat)) = (kd, kk, i) := (by decide : ((19 : Nat), (0 : Nat), (0 : Nat)) = iv (1 + 186)).trans hx.1
    cases e5
    exact absurd hv (by decide)

