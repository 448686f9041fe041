/-! the face's questions, where nothing is thrown -/
set_option maxHeartbeats 4000000 in
set_option maxRecDepth 100000 in
theorem q_X7_houseOf {D : va_G} {s0 : State} {l : Launch} {B : Nat} {A : AT} {σ : Sg} (hA : AOK B A) {nh : Nat} (h1 : σ.1 5 0 1 = nI nh) (hn : nh ≤ 8) {j q : Nat} (hj : j < nh) (hq : q < 8) : Tri D s0 l yX7_houseOf cX7_houseOf 4 ((some .int)) 2 0 0 [.ref (A 0 0 0), .int (nI j), .int (nI q)] (HP A σ) (fun r G' => r = some (.int (S_hnum (σ.1 5 0) j q)) ∧ G' = HP A σ) noX := by
  refine Tri.ofV (own := RX7) (mn := "houseOf") (by decide +kernel) rfl rfl (Nat.le_of_ble_eq_true rfl) ?_
  refine V_aload_n (i := 0) dX7_houseOf_0 rfl rfl ?_
  refine V_getf fl_X7_20 dX7_houseOf_1 (hp0 hA) rfl ?_
  refine V_iload_n (i := 1) dX7_houseOf_4 rfl rfl ?_
  refine Cv1_1 (d := 2) cv_X7_105 dX7_houseOf_5 (t_X5_houseAt_s hA (by decide) h1 hn hj) (hp5 hA (by omega)) rfl rfl (Nat.le_of_ble_eq_true rfl) ⟨Nat.le_refl _, Nat.le_refl _⟩ (by decide) ⟨Nat.le_of_ble_eq_true rfl, Nat.le_of_ble_eq_true rfl⟩ ?_
  refine V_astore_n (i := 3) dX7_houseOf_8 rfl (by decide) ?_
  refine V_aload_n (i := 3) dX7_houseOf_9 rfl rfl ?_
  refine V_ifnonnull (tgt := 23) dX7_houseOf_10 (by decide) ?_
  refine V_iload_n (i := 2) dX7_houseOf_23 rfl rfl ?_
  refine V_iconst (v := 0) dX7_houseOf_24 (by decide) ?_
  refine V_bipush (v := 7) dX7_houseOf_25 (by decide) ?_
  refine Cs1_3 (d := 2) cs_X7_116 dX7_houseOf_27 (t_X7_isOutside hA) (Nat.le_of_ble_eq_true rfl) ⟨Nat.le_refl _, Nat.le_refl _⟩ (by decide) ⟨Nat.le_of_ble_eq_true rfl, Nat.le_of_ble_eq_true rfl⟩ ?_
  refine V_if_eq (tgt := 43) dX7_houseOf_30 (by decide) (fun _ => ?_) (fun h30 => by first | exact absurd (bi_0.mpr (ob_in (n := 8) hq (by decide))) h30 | exact absurd h30 (bi_0.mpr (ob_in (n := 8) hq (by decide))))
  refine V_aload_n (i := 3) dX7_houseOf_43 rfl rfl ?_
  refine V_iload_n (i := 2) dX7_houseOf_44 rfl rfl ?_
  refine Cv1_1 (d := 2) cv_X7_125 dX7_houseOf_45 (t_X3_number hA (by decide) (by omega) hq) (hp9 hA (by omega) (by omega)) rfl rfl (Nat.le_of_ble_eq_true rfl) ⟨Nat.le_refl _, Nat.le_refl _⟩ (by decide) ⟨Nat.le_of_ble_eq_true rfl, Nat.le_of_ble_eq_true rfl⟩ ?_
  refine V_iret dX7_houseOf_48 rfl (Nat.le_of_ble_eq_true rfl) (Nat.le_of_ble_eq_true rfl) ?_
  exact ⟨rfl, rfl⟩

set_option maxHeartbeats 4000000 in
set_option maxRecDepth 100000 in
theorem q_X7_carrierOf {D : va_G} {s0 : State} {l : Launch} {B : Nat} {A : AT} {σ : Sg} (hA : AOK B A) {nc : Nat} (h2 : σ.1 5 0 2 = nI nc) (hm : nc ≤ 4) {j q : Nat} (hj : j < nc) (hq : q < 4) : Tri D s0 l yX7_carrierOf cX7_carrierOf 4 ((some .int)) 2 0 0 [.ref (A 0 0 0), .int (nI j), .int (nI q)] (HP A σ) (fun r G' => r = some (.int ((σ.1 5 0) (kx j q))) ∧ G' = HP A σ) noX := by
  refine Tri.ofV (own := RX7) (mn := "carrierOf") (by decide +kernel) rfl rfl (Nat.le_of_ble_eq_true rfl) ?_
  refine V_aload_n (i := 0) dX7_carrierOf_0 rfl rfl ?_
  refine V_getf fl_X7_20 dX7_carrierOf_1 (hp0 hA) rfl ?_
  refine V_iload_n (i := 1) dX7_carrierOf_4 rfl rfl ?_
  refine Cv1_1 (d := 2) cv_X7_130 dX7_carrierOf_5 (t_X5_carrierAt_s hA (by decide) h2 hm hj) (hp5 hA (by omega)) rfl rfl (Nat.le_of_ble_eq_true rfl) ⟨Nat.le_refl _, Nat.le_refl _⟩ (by decide) ⟨Nat.le_of_ble_eq_true rfl, Nat.le_of_ble_eq_true rfl⟩ ?_
  refine V_astore_n (i := 3) dX7_carrierOf_8 rfl (by decide) ?_
  refine V_aload_n (i := 3) dX7_carrierOf_9 rfl rfl ?_
  refine V_ifnonnull (tgt := 23) dX7_carrierOf_10 (by decide) ?_
  refine V_iload_n (i := 2) dX7_carrierOf_23 rfl rfl ?_
  refine V_iconst (v := 0) dX7_carrierOf_24 (by decide) ?_
  refine V_iconst (v := 3) dX7_carrierOf_25 (by decide) ?_
  refine Cs1_3 (d := 2) cs_X7_116 dX7_carrierOf_26 (t_X7_isOutside hA) (Nat.le_of_ble_eq_true rfl) ⟨Nat.le_refl _, Nat.le_refl _⟩ (by decide) ⟨Nat.le_of_ble_eq_true rfl, Nat.le_of_ble_eq_true rfl⟩ ?_
  refine V_if_eq (tgt := 42) dX7_carrierOf_29 (by decide) (fun _ => ?_) (fun h29 => by first | exact absurd (bi_0.mpr (ob_in (n := 4) hq (by decide))) h29 | exact absurd h29 (bi_0.mpr (ob_in (n := 4) hq (by decide))))
  refine V_aload_n (i := 3) dX7_carrierOf_42 rfl rfl ?_
  refine V_iload_n (i := 2) dX7_carrierOf_43 rfl rfl ?_
  refine Cv1_1 (d := 2) cv_X7_138 dX7_carrierOf_44 (t_X0_number hA (by decide) (by omega) hq) (hp10 hA (by omega) (by omega)) rfl rfl (Nat.le_of_ble_eq_true rfl) ⟨Nat.le_refl _, Nat.le_refl _⟩ (by decide) ⟨Nat.le_of_ble_eq_true rfl, Nat.le_of_ble_eq_true rfl⟩ ?_
  refine V_iret dX7_carrierOf_47 rfl (Nat.le_of_ble_eq_true rfl) (Nat.le_of_ble_eq_true rfl) ?_
  exact ⟨rfl, rfl⟩

set_option maxHeartbeats 4000000 in
set_option maxRecDepth 100000 in
theorem q_X7_shoeOf {D : va_G} {s0 : State} {l : Launch} {B : Nat} {A : AT} {σ : Sg} (hA : AOK B A) {j : Nat} (hq : j < 4) : Tri D s0 l yX7_shoeOf cX7_shoeOf 2 ((some .int)) 1 0 0 [.ref (A 0 0 0), .int (nI j)] (HP A σ) (fun r G' => r = some (.int ((σ.1 5 0) (10 + j))) ∧ G' = HP A σ) noX := by
  refine Tri.ofV (own := RX7) (mn := "shoeOf") (by decide +kernel) rfl rfl (Nat.le_of_ble_eq_true rfl) ?_
  refine V_iload_n (i := 1) dX7_shoeOf_0 rfl rfl ?_
  refine V_iconst (v := 0) dX7_shoeOf_1 (by decide) ?_
  refine V_iconst (v := 3) dX7_shoeOf_2 (by decide) ?_
  refine Cs1_3 (d := 1) cs_X7_116 dX7_shoeOf_3 (t_X7_isOutside hA) (Nat.le_of_ble_eq_true rfl) ⟨Nat.le_refl _, Nat.le_refl _⟩ (by decide) ⟨Nat.le_of_ble_eq_true rfl, Nat.le_of_ble_eq_true rfl⟩ ?_
  refine V_if_eq (tgt := 19) dX7_shoeOf_6 (by decide) (fun _ => ?_) (fun h6 => by first | exact absurd (bi_0.mpr (ob_in (n := 4) hq (by decide))) h6 | exact absurd h6 (bi_0.mpr (ob_in (n := 4) hq (by decide))))
  refine V_aload_n (i := 0) dX7_shoeOf_19 rfl rfl ?_
  refine V_getf fl_X7_20 dX7_shoeOf_20 (hp0 hA) rfl ?_
  refine V_getf fl_X7_143 dX7_shoeOf_23 (hp5 hA (by omega)) rfl ?_
  refine V_iload_n (i := 1) dX7_shoeOf_26 rfl rfl ?_
  refine V_iald9 dX7_shoeOf_27 (hp8 hA (by decide)) rfl (by omega) (by decide) (arn_at (by omega)) ?_
  refine V_iret dX7_shoeOf_28 rfl (Nat.le_of_ble_eq_true rfl) (Nat.le_of_ble_eq_true rfl) ?_
  exact ⟨rfl, rfl⟩

set_option maxHeartbeats 4000000 in
set_option maxRecDepth 100000 in
theorem q_X7_account {D : va_G} {s0 : State} {l : Launch} {B : Nat} {A : AT} {σ : Sg} (hA : AOK B A) {nh : Nat} (h1 : σ.1 5 0 1 = nI nh) (hn : nh ≤ 8) {q : Nat} (hq : q < 14) : Tri D s0 l yX7_account cX7_account 2 ((some .int)) 4 0 0 [.ref (A 0 0 0), .int (nI q)] (HP A σ) (fun r G' => r = some (.int (S_num (σ.1 5 0) nh q)) ∧ G' = HP A σ) noX := by
  refine Tri.ofV (own := RX7) (mn := "account") (by decide +kernel) rfl rfl (Nat.le_of_ble_eq_true rfl) ?_
  refine V_iload_n (i := 1) dX7_account_0 rfl rfl ?_
  refine V_iconst (v := 0) dX7_account_1 (by decide) ?_
  refine V_bipush (v := 15) dX7_account_2 (by decide) ?_
  refine Cs1_3 (d := 4) cs_X7_116 dX7_account_4 (t_X7_isOutside hA) (Nat.le_of_ble_eq_true rfl) ⟨Nat.le_refl _, Nat.le_refl _⟩ (by decide) ⟨Nat.le_of_ble_eq_true rfl, Nat.le_of_ble_eq_true rfl⟩ ?_
  refine V_if_eq (tgt := 21) dX7_account_7 (by decide) (fun _ => ?_) (fun h7 => by first | exact absurd (bi_0.mpr (ob_in (n := 16) (show q < 16 by omega) (by decide))) h7 | exact absurd h7 (bi_0.mpr (ob_in (n := 16) (show q < 16 by omega) (by decide))))
  refine V_iload_n (i := 1) dX7_account_21 rfl rfl ?_
  refine V_bipush (v := 14) dX7_account_22 (by decide) ?_
  refine V_icmp_ne (tgt := 35) dX7_account_24 (by decide) (fun _ => ?_) (fun h24 => by first | exact absurd (fun z => absurd ((nI_eq (a := q) (b := 14) (by omega) (by decide)).mp z) (by omega)) h24 | exact absurd h24 (fun z => absurd ((nI_eq (a := q) (b := 14) (by omega) (by decide)).mp z) (by omega)))
  refine V_iload_n (i := 1) dX7_account_35 rfl rfl ?_
  refine V_bipush (v := 15) dX7_account_36 (by decide) ?_
  refine V_icmp_ne (tgt := 49) dX7_account_38 (by decide) (fun _ => ?_) (fun h38 => by first | exact absurd (fun z => absurd ((nI_eq (a := q) (b := 15) (by omega) (by decide)).mp z) (by omega)) h38 | exact absurd h38 (fun z => absurd ((nI_eq (a := q) (b := 15) (by omega) (by decide)).mp z) (by omega)))
  refine V_aload_n (i := 0) dX7_account_49 rfl rfl ?_
  refine V_getf fl_X7_20 dX7_account_50 (hp0 hA) rfl ?_
  refine V_iload_n (i := 1) dX7_account_53 rfl rfl ?_
  refine Cv1_1 (d := 4) cv_X7_292 dX7_account_54 (t_X5_number hA (by decide) h1 hn hq) (hp5 hA (by omega)) rfl rfl (Nat.le_of_ble_eq_true rfl) ⟨Nat.le_refl _, Nat.le_refl _⟩ (by decide) ⟨Nat.le_of_ble_eq_true rfl, Nat.le_of_ble_eq_true rfl⟩ ?_
  refine V_iret dX7_account_57 rfl (Nat.le_of_ble_eq_true rfl) (Nat.le_of_ble_eq_true rfl) ?_
  exact ⟨rfl, rfl⟩

set_option maxHeartbeats 4000000 in
set_option maxRecDepth 100000 in
theorem q_X7_ranked {D : va_G} {s0 : State} {l : Launch} {B : Nat} {A : AT} {σ : Sg} (hA : AOK B A) {nh : Nat} (h1 : σ.1 5 0 1 = nI nh) (hn : nh ≤ 8) {x : Int32} (hr : ¬ S_rk (σ.1 5 0) nh x nh 0 = -1) : Tri D s0 l yX7_ranked cX7_ranked 3 ((some .int)) 4 0 0 [.ref (A 0 0 0), .int x] (HP A σ) (fun r G' => r = some (.int (S_rk (σ.1 5 0) nh x nh 0)) ∧ G' = HP A σ) noX := by
  refine Tri.ofV (own := RX7) (mn := "ranked") (by decide +kernel) rfl rfl (Nat.le_of_ble_eq_true rfl) ?_
  refine V_aload_n (i := 0) dX7_ranked_0 rfl rfl ?_
  refine V_getf fl_X7_20 dX7_ranked_1 (hp0 hA) rfl ?_
  refine V_iload_n (i := 1) dX7_ranked_4 rfl rfl ?_
  refine Cv1_1 (d := 4) cv_X7_180 dX7_ranked_5 (t_X5_houseOfRank hA (by decide) h1 hn) (hp5 hA (by omega)) rfl rfl (Nat.le_of_ble_eq_true rfl) ⟨Nat.le_refl _, Nat.le_refl _⟩ (by decide) ⟨Nat.le_of_ble_eq_true rfl, Nat.le_of_ble_eq_true rfl⟩ ?_
  refine V_istore_n (i := 2) dX7_ranked_8 rfl (by decide) ?_
  refine V_iload_n (i := 2) dX7_ranked_9 rfl rfl ?_
  refine V_iconst (v := (-1)) dX7_ranked_10 (by decide) ?_
  refine V_icmp_ne (tgt := 24) dX7_ranked_11 (by decide) (fun _ => ?_) (fun h11 => by first | exact absurd (hr) h11 | exact absurd h11 (hr))
  refine V_iload_n (i := 2) dX7_ranked_24 rfl rfl ?_
  refine V_iret dX7_ranked_25 rfl (Nat.le_of_ble_eq_true rfl) (Nat.le_of_ble_eq_true rfl) ?_
  exact ⟨rfl, rfl⟩

set_option maxHeartbeats 4000000 in
set_option maxRecDepth 100000 in
theorem q_X7_isQuiet {D : va_G} {s0 : State} {l : Launch} {B : Nat} {A : AT} {σ : Sg} (hA : AOK B A) {nh : Nat} (h1 : σ.1 5 0 1 = nI nh) (hn : nh ≤ 8) {j : Nat} (hj : j < nh) : Tri D s0 l yX7_isQuiet cX7_isQuiet 3 ((some .boolean)) 2 0 0 [.ref (A 0 0 0), .int (nI j)] (HP A σ) (fun r G' => r = some (.int (bi (decide (0 < S_lets (σ.1 5 0) j)))) ∧ G' = HP A σ) noX := by
  refine Tri.ofV (own := RX7) (mn := "isQuiet") (by decide +kernel) rfl rfl (Nat.le_of_ble_eq_true rfl) ?_
  refine V_aload_n (i := 0) dX7_isQuiet_0 rfl rfl ?_
  refine V_getf fl_X7_20 dX7_isQuiet_1 (hp0 hA) rfl ?_
  refine V_iload_n (i := 1) dX7_isQuiet_4 rfl rfl ?_
  refine Cv1_1 (d := 2) cv_X7_105 dX7_isQuiet_5 (t_X5_houseAt_s hA (by decide) h1 hn hj) (hp5 hA (by omega)) rfl rfl (Nat.le_of_ble_eq_true rfl) ⟨Nat.le_refl _, Nat.le_refl _⟩ (by decide) ⟨Nat.le_of_ble_eq_true rfl, Nat.le_of_ble_eq_true rfl⟩ ?_
  refine V_astore_n (i := 2) dX7_isQuiet_8 rfl (by decide) ?_
  refine V_aload_n (i := 2) dX7_isQuiet_9 rfl rfl ?_
  refine V_ifnonnull (tgt := 23) dX7_isQuiet_10 (by decide) ?_
  refine V_aload_n (i := 2) dX7_isQuiet_23 rfl rfl ?_
  refine Cv1_0 (d := 2) cv_X7_177 dX7_isQuiet_24 (t_X3_dogStillLets hA (by decide) (by omega)) (hp9 hA (by omega) (by omega)) rfl rfl (Nat.le_of_ble_eq_true rfl) ⟨Nat.le_refl _, Nat.le_refl _⟩ (by decide) ⟨Nat.le_of_ble_eq_true rfl, Nat.le_of_ble_eq_true rfl⟩ ?_
  refine V_if_le (tgt := 34) dX7_isQuiet_27 (by decide) (fun h27 => ?_) (fun h27 => ?_)
  · replace h27 := Int32.not_lt.mpr h27
    refine V_iconst (v := 0) dX7_isQuiet_34 (by decide) ?_
    refine V_zret dX7_isQuiet_35 rfl (by first | rfl | exact bi_n _) (Nat.le_of_ble_eq_true rfl) (Nat.le_of_ble_eq_true rfl) ?_
    refine ⟨congrArg (fun z => some (Value.int z)) ?_, rfl⟩
    first
      | (rw [decide_eq_true h27]; rfl)
      | (rw [decide_eq_false h27]; rfl)
  · replace h27 := Int32.not_le.mp h27
    refine V_iconst (v := 1) dX7_isQuiet_30 (by decide) ?_
    refine V_goto (tgt := 35) dX7_isQuiet_31 (by decide) ?_
    refine V_zret dX7_isQuiet_35 rfl (by first | rfl | exact bi_n _) (Nat.le_of_ble_eq_true rfl) (Nat.le_of_ble_eq_true rfl) ?_
    refine ⟨congrArg (fun z => some (Value.int z)) ?_, rfl⟩
    first
      | (rw [decide_eq_true h27]; rfl)
      | (rw [decide_eq_false h27]; rfl)

