/-! the class: the mean and the share -/
set_option maxHeartbeats 4000000 in
set_option maxRecDepth 100000 in
theorem t_X7_meanArrears {D : va_G} {s0 : State} {l : Launch} {B : Nat} {A : AT} {σ : Sg} (hA : AOK B A) (hl : l.stackTraces = false) {nh : Nat} (h1 : σ.1 5 0 1 = nI nh) (hn : nh ≤ 8) : Tri D s0 l yX7_meanArrears cX7_meanArrears 1 ((some .float)) 3 1 6 [.ref (A 0 0 0)] (HP A σ) (fun r G' => ¬ σ.1 5 0 1 = 0 ∧ r = some (.float (meanV (σ.1 5 0) nh)) ∧ G' = HP A σ) (fun E G' => σ.1 5 0 1 = 0 ∧ E = "java/lang/ArithmeticException" ∧ G' = HP A σ) := by
  refine Tri.ofV (own := RX7) (mn := "meanArrears") (by decide +kernel) rfl rfl (Nat.le_of_ble_eq_true rfl) ?_
  refine V_aload_n (i := 0) dX7_meanArrears_0 rfl rfl ?_
  refine V_getf fl_X7_20 dX7_meanArrears_1 (hp0 hA) rfl ?_
  refine V_getf fl_X7_174 dX7_meanArrears_4 (hp5 hA (by omega)) rfl ?_
  refine V_if_ne (tgt := 21) dX7_meanArrears_7 (by decide) (fun h7 => ?_) (fun h7 => ?_)
  · refine V_aload_n (i := 0) dX7_meanArrears_21 rfl rfl ?_
    refine V_getf fl_X7_20 dX7_meanArrears_22 (hp0 hA) rfl ?_
    refine V_iconst (v := nI 4) dX7_meanArrears_25 (by decide) ?_
    refine Cv1_1 (d := 3) cv_X7_281 dX7_meanArrears_26 (t_X5_sumOf hA (by decide) h1 hn (by decide)) (hp5 hA (by omega)) rfl rfl (Nat.le_of_ble_eq_true rfl) ⟨Nat.le_refl _, Nat.le_refl _⟩ (by decide) ⟨Nat.le_of_ble_eq_true rfl, Nat.le_of_ble_eq_true rfl⟩ ?_
    refine V_i2f dX7_meanArrears_29 ?_
    refine V_aload_n (i := 0) dX7_meanArrears_30 rfl rfl ?_
    refine V_getf fl_X7_20 dX7_meanArrears_31 (hp0 hA) rfl ?_
    refine V_getf fl_X7_174 dX7_meanArrears_34 (hp5 hA (by omega)) rfl ?_
    refine V_i2f dX7_meanArrears_37 ?_
    refine V_fdiv dX7_meanArrears_38 (fdiv_n h7) ?_
    refine V_fret dX7_meanArrears_39 rfl (Nat.le_of_ble_eq_true rfl) (Nat.le_of_ble_eq_true rfl) ?_
    exact ⟨h7, by rw [meanV, if_neg h7], rfl⟩
  · refine V_throwSW th_276 sr_278 hl dX7_meanArrears_10 dX7_meanArrears_13 dX7_meanArrears_14 dX7_meanArrears_17 dX7_meanArrears_20 (Nat.le_of_ble_eq_true rfl) (Nat.le_of_ble_eq_true rfl) (Nat.le_of_ble_eq_true rfl) ?_
    exact ⟨h7, rfl, rfl⟩

set_option maxHeartbeats 4000000 in
set_option maxRecDepth 100000 in
theorem t_X7_paidShare {D : va_G} {s0 : State} {l : Launch} {B : Nat} {A : AT} {σ : Sg} (hA : AOK B A) (hl : l.stackTraces = false) {nh : Nat} (h1 : σ.1 5 0 1 = nI nh) (hn : nh ≤ 8) : Tri D s0 l yX7_paidShare cX7_paidShare 2 ((some .double)) 4 1 6 [.ref (A 0 0 0)] (HP A σ) (fun r G' => ¬ σ.1 5 0 7 + S_sum (σ.1 5 0) nh 4 = 0 ∧ r = some (.double (shareV (σ.1 5 0) nh)) ∧ G' = HP A σ) (fun E G' => σ.1 5 0 7 + S_sum (σ.1 5 0) nh 4 = 0 ∧ E = "java/lang/ArithmeticException" ∧ G' = HP A σ) := by
  refine Tri.ofV (own := RX7) (mn := "paidShare") (by decide +kernel) rfl rfl (Nat.le_of_ble_eq_true rfl) ?_
  refine V_aload_n (i := 0) dX7_paidShare_0 rfl rfl ?_
  refine V_getf fl_X7_20 dX7_paidShare_1 (hp0 hA) rfl ?_
  refine Cv1_0 (d := 4) cv_X7_188 dX7_paidShare_4 (t_X5_coinsForSacks hA (by decide) h1 hn) (hp5 hA (by omega)) rfl rfl (Nat.le_of_ble_eq_true rfl) ⟨Nat.le_refl _, Nat.le_refl _⟩ (by decide) ⟨Nat.le_of_ble_eq_true rfl, Nat.le_of_ble_eq_true rfl⟩ ?_
  refine V_istore_n (i := 1) dX7_paidShare_7 rfl (by decide) ?_
  refine V_iload_n (i := 1) dX7_paidShare_8 rfl rfl ?_
  refine V_if_ne (tgt := 23) dX7_paidShare_9 (by decide) (fun h9 => ?_) (fun h9 => ?_)
  · refine V_aload_n (i := 0) dX7_paidShare_23 rfl rfl ?_
    refine V_getf fl_X7_20 dX7_paidShare_24 (hp0 hA) rfl ?_
    refine V_getf fl_X7_286 dX7_paidShare_27 (hp5 hA (by omega)) rfl ?_
    refine V_i2d dX7_paidShare_30 ?_
    refine V_iload_n (i := 1) dX7_paidShare_31 rfl rfl ?_
    refine V_i2d dX7_paidShare_32 ?_
    refine V_ddiv dX7_paidShare_33 (ddiv_n h9) ?_
    refine V_dret dX7_paidShare_34 rfl (Nat.le_of_ble_eq_true rfl) (Nat.le_of_ble_eq_true rfl) ?_
    exact ⟨h9, by rw [shareV, if_neg h9], rfl⟩
  · refine V_throwSW th_276 sr_284 hl dX7_paidShare_12 dX7_paidShare_15 dX7_paidShare_16 dX7_paidShare_19 dX7_paidShare_22 (Nat.le_of_ble_eq_true rfl) (Nat.le_of_ble_eq_true rfl) (Nat.le_of_ble_eq_true rfl) ?_
    exact ⟨h9, rfl, rfl⟩

