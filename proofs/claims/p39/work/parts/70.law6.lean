/-! the law: the houses are right -/
theorem v_X7_houseOf {D : va_G} {s0 : State} {l : Launch} {B : Nat} {A : AT} {σ : Sg} (hA : AOK B A) {nh : Nat} (h1 : σ.1 5 0 1 = nI nh) (hn : nh ≤ 8) {j q : Nat} (hj : j < nh) (hq : q < 8) {v : Int32} (hv : S_hnum (σ.1 5 0) j q = v) : Tri D s0 l yX7_houseOf cX7_houseOf 4 ((some .int)) 2 0 0 [.ref (A 0 0 0), .int (nI j), .int (nI q)] (HP A σ) (fun r G' => r = some (.int v) ∧ G' = HP A σ) noX := (q_X7_houseOf hA h1 hn hj hq).weaken (fun r G' h => ⟨by rw [h.1, hv], h.2⟩) (fun _ _ h => h)
theorem v_X7_carrierOf {D : va_G} {s0 : State} {l : Launch} {B : Nat} {A : AT} {σ : Sg} (hA : AOK B A) {nc : Nat} (h2 : σ.1 5 0 2 = nI nc) (hm : nc ≤ 4) {j q : Nat} (hj : j < nc) (hq : q < 4) {v : Int32} (hv : (σ.1 5 0) (kx j q) = v) : Tri D s0 l yX7_carrierOf cX7_carrierOf 4 ((some .int)) 2 0 0 [.ref (A 0 0 0), .int (nI j), .int (nI q)] (HP A σ) (fun r G' => r = some (.int v) ∧ G' = HP A σ) noX := (q_X7_carrierOf hA h2 hm hj hq).weaken (fun r G' h => ⟨by rw [h.1, hv], h.2⟩) (fun _ _ h => h)
theorem v_X7_shoeOf {D : va_G} {s0 : State} {l : Launch} {B : Nat} {A : AT} {σ : Sg} (hA : AOK B A) {j : Nat} (hq : j < 4) {v : Int32} (hv : (σ.1 5 0) (10 + j) = v) : Tri D s0 l yX7_shoeOf cX7_shoeOf 2 ((some .int)) 1 0 0 [.ref (A 0 0 0), .int (nI j)] (HP A σ) (fun r G' => r = some (.int v) ∧ G' = HP A σ) noX := (q_X7_shoeOf hA hq).weaken (fun r G' h => ⟨by rw [h.1, hv], h.2⟩) (fun _ _ h => h)
theorem v_X7_account {D : va_G} {s0 : State} {l : Launch} {B : Nat} {A : AT} {σ : Sg} (hA : AOK B A) {nh : Nat} (h1 : σ.1 5 0 1 = nI nh) (hn : nh ≤ 8) {q : Nat} (hq : q < 14) {v : Int32} (hv : S_num (σ.1 5 0) nh q = v) : Tri D s0 l yX7_account cX7_account 2 ((some .int)) 4 0 0 [.ref (A 0 0 0), .int (nI q)] (HP A σ) (fun r G' => r = some (.int v) ∧ G' = HP A σ) noX := (q_X7_account hA h1 hn hq).weaken (fun r G' h => ⟨by rw [h.1, hv], h.2⟩) (fun _ _ h => h)
theorem v_X7_ranked {D : va_G} {s0 : State} {l : Launch} {B : Nat} {A : AT} {σ : Sg} (hA : AOK B A) {nh : Nat} (h1 : σ.1 5 0 1 = nI nh) (hn : nh ≤ 8) {x : Int32} (hr : ¬ S_rk (σ.1 5 0) nh x nh 0 = -1) {v : Int32} (hv : S_rk (σ.1 5 0) nh x nh 0 = v) : Tri D s0 l yX7_ranked cX7_ranked 3 ((some .int)) 4 0 0 [.ref (A 0 0 0), .int x] (HP A σ) (fun r G' => r = some (.int v) ∧ G' = HP A σ) noX := (q_X7_ranked hA h1 hn hr).weaken (fun r G' h => ⟨by rw [h.1, hv], h.2⟩) (fun _ _ h => h)
theorem v_X7_isQuiet {D : va_G} {s0 : State} {l : Launch} {B : Nat} {A : AT} {σ : Sg} (hA : AOK B A) {nh : Nat} (h1 : σ.1 5 0 1 = nI nh) (hn : nh ≤ 8) {j : Nat} (hj : j < nh) {v : Int32} (hv : bi (decide (0 < S_lets (σ.1 5 0) j)) = v) : Tri D s0 l yX7_isQuiet cX7_isQuiet 3 ((some .boolean)) 2 0 0 [.ref (A 0 0 0), .int (nI j)] (HP A σ) (fun r G' => r = some (.int v) ∧ G' = HP A σ) noX := (q_X7_isQuiet hA h1 hn hj).weaken (fun r G' h => ⟨by rw [h.1, hv], h.2⟩) (fun _ _ h => h)
theorem v_X7_carried {D : va_G} {s0 : State} {l : Launch} {B : Nat} {A : AT} {σ : Sg} (hA : AOK B A) {nc : Nat} (h2 : σ.1 5 0 2 = nI nc) (hm : nc ≤ 4) {v : Int32} (hv : sm (fun c => (σ.1 5 0) (kx c 3)) nc = v) : Tri D s0 l yX7_carried cX7_carried 1 ((some .int)) 1 0 0 [.ref (A 0 0 0)] (HP A σ) (fun r G' => r = some (.int v) ∧ G' = HP A σ) noX := (t_X7_carried hA h2 hm).weaken (fun r G' h => ⟨by rw [h.1, hv], h.2⟩) (fun _ _ h => h)
theorem v_X7_carriedAgain {D : va_G} {s0 : State} {l : Launch} {B : Nat} {A : AT} {σ : Sg} (hA : AOK B A) {nh : Nat} (h1 : σ.1 5 0 1 = nI nh) (hn : nh ≤ 8) {v : Int32} (hv : ((σ.1 5 0) 7 + S_sum (σ.1 5 0) nh 4) / 3 = v) : Tri D s0 l yX7_carriedAgain cX7_carriedAgain 1 ((some .int)) 4 0 0 [.ref (A 0 0 0)] (HP A σ) (fun r G' => r = some (.int v) ∧ G' = HP A σ) noX := (t_X7_carriedAgain hA h1 hn).weaken (fun r G' h => ⟨by rw [h.1, hv], h.2⟩) (fun _ _ h => h)
theorem v_L_sum {D : va_G} {s0 : State} {l : Launch} {B : Nat} {A : AT} {σ : Sg} (hA : AOK B A) {nh : Nat} (h1 : σ.1 5 0 1 = nI nh) (hn : nh ≤ 8) {q : Nat} (hq : q < 8) {v : Int32} (hv : S_sum (σ.1 5 0) nh q = v) : Tri D s0 l yL_sum cL_sum 4 ((some .int)) 5 0 0 [.ref (A 0 0 0), .int (nI q)] (HP A σ) (fun r G' => r = some (.int v) ∧ G' = HP A σ) noX := (t_L_sum hA h1 hn hq).weaken (fun r G' h => ⟨by rw [h.1, hv], h.2⟩) (fun _ _ h => h)
theorem nI_m1 {k : Nat} (hk : k < 100000) : ¬ nI k = -1 := fun q => by
  have e0 := nI_pos (n := k) (by omega)
  rw [q] at e0
  exact e0 (by decide)

set_option maxHeartbeats 4000000 in
set_option maxRecDepth 100000 in
theorem t_L_areHousesRight {D : va_G} {s0 : State} {l : Launch} {B : Nat} {A : AT} {σ : Sg} (hA : AOK B A) {m nh nc : Nat} (hF : FK σ m nh nc) (hh1 : 1 ≤ nh) : Tri D s0 l yL_areHousesRight cL_areHousesRight 8 ((some .boolean)) 5 0 0 [.ref (A 0 0 0)] (HP A σ) (fun r G' => r = some (.int 1) ∧ G' = HP A σ) noX := by
  obtain ⟨-, -, ⟨h1, hn⟩, ⟨h2, hc⟩, ⟨pl, h3, hp⟩, -⟩ := id hF
  refine Tri.ofV (own := RL) (mn := "areHousesRight") (by decide +kernel) rfl rfl (Nat.le_of_ble_eq_true rfl) ?_
  have fin : V D s0 RL "areHousesRight" cL_areHousesRight 8 ((some .boolean)) [] l (rmd 5 0 0) (Zm D s0 0 0 (fun r G' => r = some (.int 1) ∧ G' = HP A σ) noX) 310 [(0, .ref (A 0 0 0)), (1, .int (nI 1)), (2, .int (S_shoes (σ.1 5 0)))] [] (HP A σ) 0 0 := by
    by_cases hs : S_shoes (σ.1 5 0) < nI 3
    ·
      refine V_iload_n (i := 2) dL_areHousesRight_310 rfl rfl ?_
      refine V_iconst (v := (nI 3)) dL_areHousesRight_311 (by decide) ?_
      refine V_icmp_lt (tgt := 331) dL_areHousesRight_312 (by decide) (fun _ => ?_) (fun h312 => by first | exact absurd (hs) h312 | exact absurd h312 (hs))
      refine V_aload_n (i := 0) dL_areHousesRight_331 rfl rfl ?_
      refine V_iconst (v := (nI 3)) dL_areHousesRight_332 (by decide) ?_
      refine Cv1_1 (d := 5) cv_L_38 dL_areHousesRight_333 (v_X7_account hA h1 hn (q := 3) (by decide) (v := nI pl) h3) (hp0 hA) rfl rfl (Nat.le_of_ble_eq_true rfl) ⟨Nat.le_refl _, Nat.le_refl _⟩ (by decide) ⟨Nat.le_of_ble_eq_true rfl, Nat.le_of_ble_eq_true rfl⟩ ?_
      refine V_istore_n (i := 3) dL_areHousesRight_336 rfl (by decide) ?_
      refine V_iload_n (i := 1) dL_areHousesRight_337 rfl rfl ?_
      refine V_if_eq (tgt := 363) dL_areHousesRight_338 (by decide) (fun h338 => by first | exact absurd h338 (by decide) | exact absurd (by decide) h338) (fun _ => ?_)
      refine V_iload_n (i := 2) dL_areHousesRight_341 rfl rfl ?_
      refine V_aload_n (i := 0) dL_areHousesRight_342 rfl rfl ?_
      refine V_bipush (v := (nI 12)) dL_areHousesRight_343 (by decide) ?_
      refine Cv1_1 (d := 5) cv_L_38 dL_areHousesRight_345 (v_X7_account hA h1 hn (q := 12) (by decide) (v := S_shoes (σ.1 5 0)) rfl) (hp0 hA) rfl rfl (Nat.le_of_ble_eq_true rfl) ⟨Nat.le_refl _, Nat.le_refl _⟩ (by decide) ⟨Nat.le_of_ble_eq_true rfl, Nat.le_of_ble_eq_true rfl⟩ ?_
      refine V_icmp_ne (tgt := 363) dL_areHousesRight_348 (by decide) (fun h348 => by first | exact absurd h348 (fun z => z rfl) | exact absurd (fun z => z rfl) h348) (fun _ => ?_)
      refine V_aload_n (i := 0) dL_areHousesRight_351 rfl rfl ?_
      refine Cv1_0 (d := 5) cv_L_111 dL_areHousesRight_352 (t_X7_reach hA) (hp0 hA) rfl rfl (Nat.le_of_ble_eq_true rfl) ⟨Nat.le_refl _, Nat.le_refl _⟩ (by decide) ⟨Nat.le_of_ble_eq_true rfl, Nat.le_of_ble_eq_true rfl⟩ ?_
      refine V_iload_n (i := 3) dL_areHousesRight_355 rfl rfl ?_
      refine V_icmp_ne (tgt := 363) dL_areHousesRight_356 (by decide) (fun h356 => by first | exact absurd h356 (fun z => z (by rw [S_reach, if_pos (show S_shoes (σ.1 5 0) < 3 from hs), h3])) | exact absurd (fun z => z (by rw [S_reach, if_pos (show S_shoes (σ.1 5 0) < 3 from hs), h3])) h356) (fun _ => ?_)
      refine V_iconst (v := (nI 1)) dL_areHousesRight_359 (by decide) ?_
      refine V_goto (tgt := 364) dL_areHousesRight_360 (by decide) ?_
      refine V_zret dL_areHousesRight_364 rfl (by first | rfl | exact bi_n _) (Nat.le_of_ble_eq_true rfl) (Nat.le_of_ble_eq_true rfl) ?_
      exact ⟨rfl, rfl⟩
    ·
      refine V_iload_n (i := 2) dL_areHousesRight_310 rfl rfl ?_
      refine V_iconst (v := (nI 3)) dL_areHousesRight_311 (by decide) ?_
      refine V_icmp_lt (tgt := 331) dL_areHousesRight_312 (by decide) (fun h312 => by first | exact absurd h312 (hs) | exact absurd (hs) h312) (fun _ => ?_)
      refine V_aload_n (i := 0) dL_areHousesRight_315 rfl rfl ?_
      refine V_iconst (v := (nI 1)) dL_areHousesRight_316 (by decide) ?_
      refine Cv1_1 (d := 5) cv_L_38 dL_areHousesRight_317 (v_X7_account hA h1 hn (q := 1) (by decide) (v := nI nh) h1) (hp0 hA) rfl rfl (Nat.le_of_ble_eq_true rfl) ⟨Nat.le_refl _, Nat.le_refl _⟩ (by decide) ⟨Nat.le_of_ble_eq_true rfl, Nat.le_of_ble_eq_true rfl⟩ ?_
      refine V_aload_n (i := 0) dL_areHousesRight_320 rfl rfl ?_
      refine V_iconst (v := (nI 3)) dL_areHousesRight_321 (by decide) ?_
      refine Cv1_1 (d := 5) cv_L_38 dL_areHousesRight_322 (v_X7_account hA h1 hn (q := 3) (by decide) (v := nI pl) h3) (hp0 hA) rfl rfl (Nat.le_of_ble_eq_true rfl) ⟨Nat.le_refl _, Nat.le_refl _⟩ (by decide) ⟨Nat.le_of_ble_eq_true rfl, Nat.le_of_ble_eq_true rfl⟩ ?_
      refine V_mmax cm_L_106 dL_areHousesRight_325 (Nat.le_of_ble_eq_true rfl) (Nat.le_of_ble_eq_true rfl) (Nat.le_of_ble_eq_true rfl) (Nat.le_of_ble_eq_true rfl) ?_
      rw [if_neg (nI_nlt hp (by omega))]
      refine V_goto (tgt := 336) dL_areHousesRight_328 (by decide) ?_
      refine V_istore_n (i := 3) dL_areHousesRight_336 rfl (by decide) ?_
      refine V_iload_n (i := 1) dL_areHousesRight_337 rfl rfl ?_
      refine V_if_eq (tgt := 363) dL_areHousesRight_338 (by decide) (fun h338 => by first | exact absurd h338 (by decide) | exact absurd (by decide) h338) (fun _ => ?_)
      refine V_iload_n (i := 2) dL_areHousesRight_341 rfl rfl ?_
      refine V_aload_n (i := 0) dL_areHousesRight_342 rfl rfl ?_
      refine V_bipush (v := (nI 12)) dL_areHousesRight_343 (by decide) ?_
      refine Cv1_1 (d := 5) cv_L_38 dL_areHousesRight_345 (v_X7_account hA h1 hn (q := 12) (by decide) (v := S_shoes (σ.1 5 0)) rfl) (hp0 hA) rfl rfl (Nat.le_of_ble_eq_true rfl) ⟨Nat.le_refl _, Nat.le_refl _⟩ (by decide) ⟨Nat.le_of_ble_eq_true rfl, Nat.le_of_ble_eq_true rfl⟩ ?_
      refine V_icmp_ne (tgt := 363) dL_areHousesRight_348 (by decide) (fun h348 => by first | exact absurd h348 (fun z => z rfl) | exact absurd (fun z => z rfl) h348) (fun _ => ?_)
      refine V_aload_n (i := 0) dL_areHousesRight_351 rfl rfl ?_
      refine Cv1_0 (d := 5) cv_L_111 dL_areHousesRight_352 (t_X7_reach hA) (hp0 hA) rfl rfl (Nat.le_of_ble_eq_true rfl) ⟨Nat.le_refl _, Nat.le_refl _⟩ (by decide) ⟨Nat.le_of_ble_eq_true rfl, Nat.le_of_ble_eq_true rfl⟩ ?_
      refine V_iload_n (i := 3) dL_areHousesRight_355 rfl rfl ?_
      refine V_icmp_ne (tgt := 363) dL_areHousesRight_356 (by decide) (fun h356 => by first | exact absurd h356 (fun z => z (by rw [S_reach, if_neg (show ¬ S_shoes (σ.1 5 0) < 3 from hs), h1])) | exact absurd (fun z => z (by rw [S_reach, if_neg (show ¬ S_shoes (σ.1 5 0) < 3 from hs), h1])) h356) (fun _ => ?_)
      refine V_iconst (v := (nI 1)) dL_areHousesRight_359 (by decide) ?_
      refine V_goto (tgt := 364) dL_areHousesRight_360 (by decide) ?_
      refine V_zret dL_areHousesRight_364 rfl (by first | rfl | exact bi_n _) (Nat.le_of_ble_eq_true rfl) (Nat.le_of_ble_eq_true rfl) ?_
      exact ⟨rfl, rfl⟩
  have lr : ∀ n k : Nat, k + n = nh → 1 ≤ k → V D s0 RL "areHousesRight" cL_areHousesRight 8 ((some .boolean)) [] l (rmd 5 0 0) (Zm D s0 0 0 (fun r G' => r = some (.int 1) ∧ G' = HP A σ) noX) 208 [(0, .ref (A 0 0 0)), (1, .int (nI 1)), (2, .int (S_shoes (σ.1 5 0))), (3, .int (nI k))] [] (HP A σ) 0 0 := by
    intro n
    induction n with
    | zero =>
      intro k hk hk1
      obtain rfl : k = nh := by omega
      refine V_iload_n (i := 3) dL_areHousesRight_208 rfl rfl ?_
      refine V_aload_n (i := 0) dL_areHousesRight_209 rfl rfl ?_
      refine V_iconst (v := (nI 1)) dL_areHousesRight_210 (by decide) ?_
      refine Cv1_1 (d := 5) cv_L_38 dL_areHousesRight_211 (v_X7_account hA h1 hn (q := 1) (by decide) (v := nI k) h1) (hp0 hA) rfl rfl (Nat.le_of_ble_eq_true rfl) ⟨Nat.le_refl _, Nat.le_refl _⟩ (by decide) ⟨Nat.le_of_ble_eq_true rfl, Nat.le_of_ble_eq_true rfl⟩ ?_
      refine V_icmp_ge (tgt := 310) dL_areHousesRight_214 (by decide) (fun _ => ?_) (fun h214 => by first | exact absurd (nI_le (Nat.le_refl _) (by omega)) h214 | exact absurd h214 (nI_le (Nat.le_refl _) (by omega)))
      exact V.fin [0, 1, 2] rfl rfl fin
    | succ n ih =>
      intro k hk hk1
      obtain ⟨a, ha, ea, ca⟩ := rk_ex (w := σ.1 5 0) (nh := nh) (k := k - 1) hn (by omega)
      obtain ⟨b, hb, eb, cb⟩ := rk_ex (w := σ.1 5 0) (nh := nh) (k := k) hn (by omega)
      have hah := rk_two ha hb ca cb hk1
      have na : ¬ S_rk (σ.1 5 0) nh (nI (k - 1)) nh 0 = -1 := by rw [ea]; exact nI_m1 (by omega)
      have nb : ¬ S_rk (σ.1 5 0) nh (nI k) nh 0 = -1 := by rw [eb]; exact nI_m1 (by omega)
      obtain ⟨ra, hra, era⟩ := hF.2.1.h (i := a) (f := 4) (by omega) (by decide) rfl
      obtain ⟨rb, hrb, erb⟩ := hF.2.1.h (i := b) (f := 4) (by omega) (by decide) rfl
      obtain ⟨da, hda, eda⟩ := hF.2.1.h (i := a) (f := 3) (by omega) (by decide) rfl
      obtain ⟨db, hdb, edb⟩ := hF.2.1.h (i := b) (f := 3) (by omega) (by decide) rfl
      rw [ah_iff, era, erb, eda, edb, nI_toInt (by omega), nI_toInt (by omega), nI_toInt (by omega), nI_toInt (by omega)] at hah
      have ks : nI k - nI 1 = nI (k - 1) := pk_sub hk1
      rcases (by omega : rb < ra ∨ (ra = rb ∧ db < da) ∨ (ra = rb ∧ da = db ∧ a < b)) with c1 | ⟨c1, c2⟩ | ⟨c1, c2, c3⟩
      · have e4 : nI ra - nI rb = nI (ra - rb) := pk_sub (by omega)
        refine V_iload_n (i := 3) dL_areHousesRight_208 rfl rfl ?_
        refine V_aload_n (i := 0) dL_areHousesRight_209 rfl rfl ?_
        refine V_iconst (v := (nI 1)) dL_areHousesRight_210 (by decide) ?_
        refine Cv1_1 (d := 5) cv_L_38 dL_areHousesRight_211 (v_X7_account hA h1 hn (q := 1) (by decide) (v := nI nh) h1) (hp0 hA) rfl rfl (Nat.le_of_ble_eq_true rfl) ⟨Nat.le_refl _, Nat.le_refl _⟩ (by decide) ⟨Nat.le_of_ble_eq_true rfl, Nat.le_of_ble_eq_true rfl⟩ ?_
        refine V_icmp_ge (tgt := 310) dL_areHousesRight_214 (by decide) (fun h214 => by first | exact absurd h214 (nI_ge (by omega) (by omega)) | exact absurd (nI_ge (by omega) (by omega)) h214) (fun _ => ?_)
        refine V_aload_n (i := 0) dL_areHousesRight_217 rfl rfl ?_
        refine V_iload_n (i := 3) dL_areHousesRight_218 rfl rfl ?_
        refine V_iconst (v := (nI 1)) dL_areHousesRight_219 (by decide) ?_
        refine V_isub dL_areHousesRight_220 ?_
        rw [ks]
        refine Cv1_1 (d := 5) cv_L_103 dL_areHousesRight_221 (v_X7_ranked hA h1 hn na ea) (hp0 hA) rfl rfl (Nat.le_of_ble_eq_true rfl) ⟨Nat.le_refl _, Nat.le_refl _⟩ (by decide) ⟨Nat.le_of_ble_eq_true rfl, Nat.le_of_ble_eq_true rfl⟩ ?_
        refine V_istore (i := 4) dL_areHousesRight_224 (by decide) ?_
        refine V_aload_n (i := 0) dL_areHousesRight_226 rfl rfl ?_
        refine V_iload_n (i := 3) dL_areHousesRight_227 rfl rfl ?_
        refine Cv1_1 (d := 5) cv_L_103 dL_areHousesRight_228 (v_X7_ranked hA h1 hn nb eb) (hp0 hA) rfl rfl (Nat.le_of_ble_eq_true rfl) ⟨Nat.le_refl _, Nat.le_refl _⟩ (by decide) ⟨Nat.le_of_ble_eq_true rfl, Nat.le_of_ble_eq_true rfl⟩ ?_
        refine V_istore (i := 5) dL_areHousesRight_231 (by decide) ?_
        refine V_aload_n (i := 0) dL_areHousesRight_233 rfl rfl ?_
        refine V_iload (i := 4) dL_areHousesRight_234 rfl ?_
        refine V_iconst (v := (nI 4)) dL_areHousesRight_236 (by decide) ?_
        refine Cv1_2 (d := 5) cv_L_72 dL_areHousesRight_237 (v_X7_houseOf hA h1 hn (j := a) (q := 4) ha (by decide) (v := nI ra) era) (hp0 hA) rfl rfl (Nat.le_of_ble_eq_true rfl) ⟨Nat.le_refl _, Nat.le_refl _⟩ (by decide) ⟨Nat.le_of_ble_eq_true rfl, Nat.le_of_ble_eq_true rfl⟩ ?_
        refine V_aload_n (i := 0) dL_areHousesRight_240 rfl rfl ?_
        refine V_iload (i := 5) dL_areHousesRight_241 rfl ?_
        refine V_iconst (v := (nI 4)) dL_areHousesRight_243 (by decide) ?_
        refine Cv1_2 (d := 5) cv_L_72 dL_areHousesRight_244 (v_X7_houseOf hA h1 hn (j := b) (q := 4) hb (by decide) (v := nI rb) erb) (hp0 hA) rfl rfl (Nat.le_of_ble_eq_true rfl) ⟨Nat.le_refl _, Nat.le_refl _⟩ (by decide) ⟨Nat.le_of_ble_eq_true rfl, Nat.le_of_ble_eq_true rfl⟩ ?_
        refine V_isub dL_areHousesRight_247 ?_
        rw [e4]
        refine V_istore (i := 6) dL_areHousesRight_248 (by decide) ?_
        refine V_aload_n (i := 0) dL_areHousesRight_250 rfl rfl ?_
        refine V_iload (i := 4) dL_areHousesRight_251 rfl ?_
        refine V_iconst (v := (nI 3)) dL_areHousesRight_253 (by decide) ?_
        refine Cv1_2 (d := 5) cv_L_72 dL_areHousesRight_254 (v_X7_houseOf hA h1 hn (j := a) (q := 3) ha (by decide) (v := nI da) eda) (hp0 hA) rfl rfl (Nat.le_of_ble_eq_true rfl) ⟨Nat.le_refl _, Nat.le_refl _⟩ (by decide) ⟨Nat.le_of_ble_eq_true rfl, Nat.le_of_ble_eq_true rfl⟩ ?_
        refine V_aload_n (i := 0) dL_areHousesRight_257 rfl rfl ?_
        refine V_iload (i := 5) dL_areHousesRight_258 rfl ?_
        refine V_iconst (v := (nI 3)) dL_areHousesRight_260 (by decide) ?_
        refine Cv1_2 (d := 5) cv_L_72 dL_areHousesRight_261 (v_X7_houseOf hA h1 hn (j := b) (q := 3) hb (by decide) (v := nI db) edb) (hp0 hA) rfl rfl (Nat.le_of_ble_eq_true rfl) ⟨Nat.le_refl _, Nat.le_refl _⟩ (by decide) ⟨Nat.le_of_ble_eq_true rfl, Nat.le_of_ble_eq_true rfl⟩ ?_
        refine V_isub dL_areHousesRight_264 ?_
        refine V_istore (i := 7) dL_areHousesRight_265 (by decide) ?_
        refine V_iload_n (i := 1) dL_areHousesRight_267 rfl rfl ?_
        refine V_if_eq (tgt := 302) dL_areHousesRight_268 (by decide) (fun h268 => by first | exact absurd h268 (by decide) | exact absurd (by decide) h268) (fun _ => ?_)
        refine V_iload (i := 6) dL_areHousesRight_271 rfl ?_
        refine V_if_gt (tgt := 298) dL_areHousesRight_273 (by decide) (fun _ => ?_) (fun h273 => by first | exact absurd ((nI_ltI (a := 0) (by decide) (by omega)).mpr (by omega)) h273 | exact absurd h273 ((nI_ltI (a := 0) (by decide) (by omega)).mpr (by omega)))
        refine V_iconst (v := (nI 1)) dL_areHousesRight_298 (by decide) ?_
        refine V_goto (tgt := 303) dL_areHousesRight_299 (by decide) ?_
        refine V_istore_n (i := 1) dL_areHousesRight_303 rfl (by decide) ?_
        refine V_iinc (i := 3) dL_areHousesRight_304 rfl (inc1 _) (by decide) ?_
        refine V_goto (tgt := 208) dL_areHousesRight_307 (by decide) ?_
        exact V.fin [6, 1, 7, 0] rfl rfl (ih (k + 1) (by omega) (by omega))
      · have e4 : nI ra - nI rb = nI 0 := by rw [c1, pk_sub (Nat.le_refl rb), Nat.sub_self]
        have e3 : nI da - nI db = nI (da - db) := pk_sub (by omega)
        refine V_iload_n (i := 3) dL_areHousesRight_208 rfl rfl ?_
        refine V_aload_n (i := 0) dL_areHousesRight_209 rfl rfl ?_
        refine V_iconst (v := (nI 1)) dL_areHousesRight_210 (by decide) ?_
        refine Cv1_1 (d := 5) cv_L_38 dL_areHousesRight_211 (v_X7_account hA h1 hn (q := 1) (by decide) (v := nI nh) h1) (hp0 hA) rfl rfl (Nat.le_of_ble_eq_true rfl) ⟨Nat.le_refl _, Nat.le_refl _⟩ (by decide) ⟨Nat.le_of_ble_eq_true rfl, Nat.le_of_ble_eq_true rfl⟩ ?_
        refine V_icmp_ge (tgt := 310) dL_areHousesRight_214 (by decide) (fun h214 => by first | exact absurd h214 (nI_ge (by omega) (by omega)) | exact absurd (nI_ge (by omega) (by omega)) h214) (fun _ => ?_)
        refine V_aload_n (i := 0) dL_areHousesRight_217 rfl rfl ?_
        refine V_iload_n (i := 3) dL_areHousesRight_218 rfl rfl ?_
        refine V_iconst (v := (nI 1)) dL_areHousesRight_219 (by decide) ?_
        refine V_isub dL_areHousesRight_220 ?_
        rw [ks]
        refine Cv1_1 (d := 5) cv_L_103 dL_areHousesRight_221 (v_X7_ranked hA h1 hn na ea) (hp0 hA) rfl rfl (Nat.le_of_ble_eq_true rfl) ⟨Nat.le_refl _, Nat.le_refl _⟩ (by decide) ⟨Nat.le_of_ble_eq_true rfl, Nat.le_of_ble_eq_true rfl⟩ ?_
        refine V_istore (i := 4) dL_areHousesRight_224 (by decide) ?_
        refine V_aload_n (i := 0) dL_areHousesRight_226 rfl rfl ?_
        refine V_iload_n (i := 3) dL_areHousesRight_227 rfl rfl ?_
        refine Cv1_1 (d := 5) cv_L_103 dL_areHousesRight_228 (v_X7_ranked hA h1 hn nb eb) (hp0 hA) rfl rfl (Nat.le_of_ble_eq_true rfl) ⟨Nat.le_refl _, Nat.le_refl _⟩ (by decide) ⟨Nat.le_of_ble_eq_true rfl, Nat.le_of_ble_eq_true rfl⟩ ?_
        refine V_istore (i := 5) dL_areHousesRight_231 (by decide) ?_
        refine V_aload_n (i := 0) dL_areHousesRight_233 rfl rfl ?_
        refine V_iload (i := 4) dL_areHousesRight_234 rfl ?_
        refine V_iconst (v := (nI 4)) dL_areHousesRight_236 (by decide) ?_
        refine Cv1_2 (d := 5) cv_L_72 dL_areHousesRight_237 (v_X7_houseOf hA h1 hn (j := a) (q := 4) ha (by decide) (v := nI ra) era) (hp0 hA) rfl rfl (Nat.le_of_ble_eq_true rfl) ⟨Nat.le_refl _, Nat.le_refl _⟩ (by decide) ⟨Nat.le_of_ble_eq_true rfl, Nat.le_of_ble_eq_true rfl⟩ ?_
        refine V_aload_n (i := 0) dL_areHousesRight_240 rfl rfl ?_
        refine V_iload (i := 5) dL_areHousesRight_241 rfl ?_
        refine V_iconst (v := (nI 4)) dL_areHousesRight_243 (by decide) ?_
        refine Cv1_2 (d := 5) cv_L_72 dL_areHousesRight_244 (v_X7_houseOf hA h1 hn (j := b) (q := 4) hb (by decide) (v := nI rb) erb) (hp0 hA) rfl rfl (Nat.le_of_ble_eq_true rfl) ⟨Nat.le_refl _, Nat.le_refl _⟩ (by decide) ⟨Nat.le_of_ble_eq_true rfl, Nat.le_of_ble_eq_true rfl⟩ ?_
        refine V_isub dL_areHousesRight_247 ?_
        rw [e4]
        refine V_istore (i := 6) dL_areHousesRight_248 (by decide) ?_
        refine V_aload_n (i := 0) dL_areHousesRight_250 rfl rfl ?_
        refine V_iload (i := 4) dL_areHousesRight_251 rfl ?_
        refine V_iconst (v := (nI 3)) dL_areHousesRight_253 (by decide) ?_
        refine Cv1_2 (d := 5) cv_L_72 dL_areHousesRight_254 (v_X7_houseOf hA h1 hn (j := a) (q := 3) ha (by decide) (v := nI da) eda) (hp0 hA) rfl rfl (Nat.le_of_ble_eq_true rfl) ⟨Nat.le_refl _, Nat.le_refl _⟩ (by decide) ⟨Nat.le_of_ble_eq_true rfl, Nat.le_of_ble_eq_true rfl⟩ ?_
        refine V_aload_n (i := 0) dL_areHousesRight_257 rfl rfl ?_
        refine V_iload (i := 5) dL_areHousesRight_258 rfl ?_
        refine V_iconst (v := (nI 3)) dL_areHousesRight_260 (by decide) ?_
        refine Cv1_2 (d := 5) cv_L_72 dL_areHousesRight_261 (v_X7_houseOf hA h1 hn (j := b) (q := 3) hb (by decide) (v := nI db) edb) (hp0 hA) rfl rfl (Nat.le_of_ble_eq_true rfl) ⟨Nat.le_refl _, Nat.le_refl _⟩ (by decide) ⟨Nat.le_of_ble_eq_true rfl, Nat.le_of_ble_eq_true rfl⟩ ?_
        refine V_isub dL_areHousesRight_264 ?_
        rw [e3]
        refine V_istore (i := 7) dL_areHousesRight_265 (by decide) ?_
        refine V_iload_n (i := 1) dL_areHousesRight_267 rfl rfl ?_
        refine V_if_eq (tgt := 302) dL_areHousesRight_268 (by decide) (fun h268 => by first | exact absurd h268 (by decide) | exact absurd (by decide) h268) (fun _ => ?_)
        refine V_iload (i := 6) dL_areHousesRight_271 rfl ?_
        refine V_if_gt (tgt := 298) dL_areHousesRight_273 (by decide) (fun h273 => by first | exact absurd h273 (by decide) | exact absurd (by decide) h273) (fun _ => ?_)
        refine V_iload (i := 6) dL_areHousesRight_276 rfl ?_
        refine V_if_ne (tgt := 302) dL_areHousesRight_278 (by decide) (fun h278 => by first | exact absurd h278 (fun z => z (by decide)) | exact absurd (fun z => z (by decide)) h278) (fun _ => ?_)
        refine V_iload (i := 7) dL_areHousesRight_281 rfl ?_
        refine V_if_gt (tgt := 298) dL_areHousesRight_283 (by decide) (fun _ => ?_) (fun h283 => by first | exact absurd ((nI_ltI (a := 0) (by decide) (by omega)).mpr (by omega)) h283 | exact absurd h283 ((nI_ltI (a := 0) (by decide) (by omega)).mpr (by omega)))
        refine V_iconst (v := (nI 1)) dL_areHousesRight_298 (by decide) ?_
        refine V_goto (tgt := 303) dL_areHousesRight_299 (by decide) ?_
        refine V_istore_n (i := 1) dL_areHousesRight_303 rfl (by decide) ?_
        refine V_iinc (i := 3) dL_areHousesRight_304 rfl (inc1 _) (by decide) ?_
        refine V_goto (tgt := 208) dL_areHousesRight_307 (by decide) ?_
        exact V.fin [6, 1, 7, 0] rfl rfl (ih (k + 1) (by omega) (by omega))
      · have e4 : nI ra - nI rb = nI 0 := by rw [c1, pk_sub (Nat.le_refl rb), Nat.sub_self]
        have e3 : nI da - nI db = nI 0 := by rw [c2, pk_sub (Nat.le_refl db), Nat.sub_self]
        refine V_iload_n (i := 3) dL_areHousesRight_208 rfl rfl ?_
        refine V_aload_n (i := 0) dL_areHousesRight_209 rfl rfl ?_
        refine V_iconst (v := (nI 1)) dL_areHousesRight_210 (by decide) ?_
        refine Cv1_1 (d := 5) cv_L_38 dL_areHousesRight_211 (v_X7_account hA h1 hn (q := 1) (by decide) (v := nI nh) h1) (hp0 hA) rfl rfl (Nat.le_of_ble_eq_true rfl) ⟨Nat.le_refl _, Nat.le_refl _⟩ (by decide) ⟨Nat.le_of_ble_eq_true rfl, Nat.le_of_ble_eq_true rfl⟩ ?_
        refine V_icmp_ge (tgt := 310) dL_areHousesRight_214 (by decide) (fun h214 => by first | exact absurd h214 (nI_ge (by omega) (by omega)) | exact absurd (nI_ge (by omega) (by omega)) h214) (fun _ => ?_)
        refine V_aload_n (i := 0) dL_areHousesRight_217 rfl rfl ?_
        refine V_iload_n (i := 3) dL_areHousesRight_218 rfl rfl ?_
        refine V_iconst (v := (nI 1)) dL_areHousesRight_219 (by decide) ?_
        refine V_isub dL_areHousesRight_220 ?_
        rw [ks]
        refine Cv1_1 (d := 5) cv_L_103 dL_areHousesRight_221 (v_X7_ranked hA h1 hn na ea) (hp0 hA) rfl rfl (Nat.le_of_ble_eq_true rfl) ⟨Nat.le_refl _, Nat.le_refl _⟩ (by decide) ⟨Nat.le_of_ble_eq_true rfl, Nat.le_of_ble_eq_true rfl⟩ ?_
        refine V_istore (i := 4) dL_areHousesRight_224 (by decide) ?_
        refine V_aload_n (i := 0) dL_areHousesRight_226 rfl rfl ?_
        refine V_iload_n (i := 3) dL_areHousesRight_227 rfl rfl ?_
        refine Cv1_1 (d := 5) cv_L_103 dL_areHousesRight_228 (v_X7_ranked hA h1 hn nb eb) (hp0 hA) rfl rfl (Nat.le_of_ble_eq_true rfl) ⟨Nat.le_refl _, Nat.le_refl _⟩ (by decide) ⟨Nat.le_of_ble_eq_true rfl, Nat.le_of_ble_eq_true rfl⟩ ?_
        refine V_istore (i := 5) dL_areHousesRight_231 (by decide) ?_
        refine V_aload_n (i := 0) dL_areHousesRight_233 rfl rfl ?_
        refine V_iload (i := 4) dL_areHousesRight_234 rfl ?_
        refine V_iconst (v := (nI 4)) dL_areHousesRight_236 (by decide) ?_
        refine Cv1_2 (d := 5) cv_L_72 dL_areHousesRight_237 (v_X7_houseOf hA h1 hn (j := a) (q := 4) ha (by decide) (v := nI ra) era) (hp0 hA) rfl rfl (Nat.le_of_ble_eq_true rfl) ⟨Nat.le_refl _, Nat.le_refl _⟩ (by decide) ⟨Nat.le_of_ble_eq_true rfl, Nat.le_of_ble_eq_true rfl⟩ ?_
        refine V_aload_n (i := 0) dL_areHousesRight_240 rfl rfl ?_
        refine V_iload (i := 5) dL_areHousesRight_241 rfl ?_
        refine V_iconst (v := (nI 4)) dL_areHousesRight_243 (by decide) ?_
        refine Cv1_2 (d := 5) cv_L_72 dL_areHousesRight_244 (v_X7_houseOf hA h1 hn (j := b) (q := 4) hb (by decide) (v := nI rb) erb) (hp0 hA) rfl rfl (Nat.le_of_ble_eq_true rfl) ⟨Nat.le_refl _, Nat.le_refl _⟩ (by decide) ⟨Nat.le_of_ble_eq_true rfl, Nat.le_of_ble_eq_true rfl⟩ ?_
        refine V_isub dL_areHousesRight_247 ?_
        rw [e4]
        refine V_istore (i := 6) dL_areHousesRight_248 (by decide) ?_
        refine V_aload_n (i := 0) dL_areHousesRight_250 rfl rfl ?_
        refine V_iload (i := 4) dL_areHousesRight_251 rfl ?_
        refine V_iconst (v := (nI 3)) dL_areHousesRight_253 (by decide) ?_
        refine Cv1_2 (d := 5) cv_L_72 dL_areHousesRight_254 (v_X7_houseOf hA h1 hn (j := a) (q := 3) ha (by decide) (v := nI da) eda) (hp0 hA) rfl rfl (Nat.le_of_ble_eq_true rfl) ⟨Nat.le_refl _, Nat.le_refl _⟩ (by decide) ⟨Nat.le_of_ble_eq_true rfl, Nat.le_of_ble_eq_true rfl⟩ ?_
        refine V_aload_n (i := 0) dL_areHousesRight_257 rfl rfl ?_
        refine V_iload (i := 5) dL_areHousesRight_258 rfl ?_
        refine V_iconst (v := (nI 3)) dL_areHousesRight_260 (by decide) ?_
        refine Cv1_2 (d := 5) cv_L_72 dL_areHousesRight_261 (v_X7_houseOf hA h1 hn (j := b) (q := 3) hb (by decide) (v := nI db) edb) (hp0 hA) rfl rfl (Nat.le_of_ble_eq_true rfl) ⟨Nat.le_refl _, Nat.le_refl _⟩ (by decide) ⟨Nat.le_of_ble_eq_true rfl, Nat.le_of_ble_eq_true rfl⟩ ?_
        refine V_isub dL_areHousesRight_264 ?_
        rw [e3]
        refine V_istore (i := 7) dL_areHousesRight_265 (by decide) ?_
        refine V_iload_n (i := 1) dL_areHousesRight_267 rfl rfl ?_
        refine V_if_eq (tgt := 302) dL_areHousesRight_268 (by decide) (fun h268 => by first | exact absurd h268 (by decide) | exact absurd (by decide) h268) (fun _ => ?_)
        refine V_iload (i := 6) dL_areHousesRight_271 rfl ?_
        refine V_if_gt (tgt := 298) dL_areHousesRight_273 (by decide) (fun h273 => by first | exact absurd h273 (by decide) | exact absurd (by decide) h273) (fun _ => ?_)
        refine V_iload (i := 6) dL_areHousesRight_276 rfl ?_
        refine V_if_ne (tgt := 302) dL_areHousesRight_278 (by decide) (fun h278 => by first | exact absurd h278 (fun z => z (by decide)) | exact absurd (fun z => z (by decide)) h278) (fun _ => ?_)
        refine V_iload (i := 7) dL_areHousesRight_281 rfl ?_
        refine V_if_gt (tgt := 298) dL_areHousesRight_283 (by decide) (fun h283 => by first | exact absurd h283 (by decide) | exact absurd (by decide) h283) (fun _ => ?_)
        refine V_iload (i := 7) dL_areHousesRight_286 rfl ?_
        refine V_if_ne (tgt := 302) dL_areHousesRight_288 (by decide) (fun h288 => by first | exact absurd h288 (fun z => z (by decide)) | exact absurd (fun z => z (by decide)) h288) (fun _ => ?_)
        refine V_iload (i := 4) dL_areHousesRight_291 rfl ?_
        refine V_iload (i := 5) dL_areHousesRight_293 rfl ?_
        refine V_icmp_ge (tgt := 302) dL_areHousesRight_295 (by decide) (fun h295 => by first | exact absurd h295 (nI_ge c3 (by omega)) | exact absurd (nI_ge c3 (by omega)) h295) (fun _ => ?_)
        refine V_iconst (v := (nI 1)) dL_areHousesRight_298 (by decide) ?_
        refine V_goto (tgt := 303) dL_areHousesRight_299 (by decide) ?_
        refine V_istore_n (i := 1) dL_areHousesRight_303 rfl (by decide) ?_
        refine V_iinc (i := 3) dL_areHousesRight_304 rfl (inc1 _) (by decide) ?_
        refine V_goto (tgt := 208) dL_areHousesRight_307 (by decide) ?_
        exact V.fin [6, 1, 7, 0] rfl rfl (ih (k + 1) (by omega) (by omega))
  have ls : ∀ n k : Nat, k + n = 4 → V D s0 RL "areHousesRight" cL_areHousesRight 8 ((some .boolean)) [] l (rmd 5 0 0) (Zm D s0 0 0 (fun r G' => r = some (.int 1) ∧ G' = HP A σ) noX) 149 [(0, .ref (A 0 0 0)), (1, .int (nI 1)), (2, .int (sm (S_worn (σ.1 5 0)) k)), (3, .int (nI k))] [] (HP A σ) 0 0 := by
    intro n
    induction n with
    | zero =>
      intro k hk
      obtain rfl : k = 4 := by omega
      refine V_iload_n (i := 3) dL_areHousesRight_149 rfl rfl ?_
      refine V_iconst (v := (nI 4)) dL_areHousesRight_150 (by decide) ?_
      refine V_icmp_ge (tgt := 206) dL_areHousesRight_151 (by decide) (fun _ => ?_) (fun h151 => by first | exact absurd (nI_le (Nat.le_refl _) (by decide)) h151 | exact absurd h151 (nI_le (Nat.le_refl _) (by decide)))
      refine V_iconst (v := (nI 1)) dL_areHousesRight_206 (by decide) ?_
      refine V_istore_n (i := 3) dL_areHousesRight_207 rfl (by decide) ?_
      exact V.fin [1, 2, 3, 0] rfl rfl (lr (nh - 1) 1 (by omega) (Nat.le_refl _))
    | succ n ih =>
      intro k hk
      have hb : lbd m (10 + k) = some 20 := by
        rcases (by omega : k = 0 ∨ k = 1 ∨ k = 2 ∨ k = 3) with rfl | rfl | rfl | rfl <;> rfl
      obtain ⟨a, ha, ea⟩ := hF.2.1 (10 + k) 20 ((bd_l (by omega)).trans hb)
      have k9 := ih (k + 1) (by omega)
      refine V_iload_n (i := 3) dL_areHousesRight_149 rfl rfl ?_
      refine V_iconst (v := (nI 4)) dL_areHousesRight_150 (by decide) ?_
      refine V_icmp_ge (tgt := 206) dL_areHousesRight_151 (by decide) (fun h151 => by first | exact absurd h151 (nI_ge (by omega) (by decide)) | exact absurd (nI_ge (by omega) (by decide)) h151) (fun _ => ?_)
      refine V_iload_n (i := 2) dL_areHousesRight_154 rfl rfl ?_
      refine V_aload_n (i := 0) dL_areHousesRight_155 rfl rfl ?_
      refine V_iload_n (i := 3) dL_areHousesRight_156 rfl rfl ?_
      refine Cv1_1 (d := 5) cv_L_78 dL_areHousesRight_157 (v_X7_shoeOf hA (j := k) (by omega) (v := nI a) ea) (hp0 hA) rfl rfl (Nat.le_of_ble_eq_true rfl) ⟨Nat.le_refl _, Nat.le_refl _⟩ (by decide) ⟨Nat.le_of_ble_eq_true rfl, Nat.le_of_ble_eq_true rfl⟩ ?_
      refine V_bipush (v := (nI 20)) dL_areHousesRight_160 (by decide) ?_
      refine V_icmp_ge (tgt := 169) dL_areHousesRight_162 (by decide) (fun h162 => ?_) (fun h162 => ?_)
      · have e9 : sm (S_worn (σ.1 5 0)) (k + 1) = sm (S_worn (σ.1 5 0)) k + nI 0 := by
          rw [sm, S_worn, ea, if_pos (show (20 : Int32) ≤ nI a from h162)]
          rfl
        refine V_iconst (v := (nI 0)) dL_areHousesRight_169 (by decide) ?_
        refine V_iadd dL_areHousesRight_170 ?_
        refine V_istore_n (i := 2) dL_areHousesRight_171 rfl (by decide) ?_
        refine V_iload_n (i := 1) dL_areHousesRight_172 rfl rfl ?_
        refine V_if_eq (tgt := 198) dL_areHousesRight_173 (by decide) (fun h173 => by first | exact absurd h173 (by decide) | exact absurd (by decide) h173) (fun _ => ?_)
        refine V_aload_n (i := 0) dL_areHousesRight_176 rfl rfl ?_
        refine V_iload_n (i := 3) dL_areHousesRight_177 rfl rfl ?_
        refine Cv1_1 (d := 5) cv_L_78 dL_areHousesRight_178 (v_X7_shoeOf hA (j := k) (by omega) (v := nI a) ea) (hp0 hA) rfl rfl (Nat.le_of_ble_eq_true rfl) ⟨Nat.le_refl _, Nat.le_refl _⟩ (by decide) ⟨Nat.le_of_ble_eq_true rfl, Nat.le_of_ble_eq_true rfl⟩ ?_
        refine V_if_lt (tgt := 198) dL_areHousesRight_181 (by decide) (fun h181 => by first | exact absurd h181 (nI_pos (by omega)) | exact absurd (nI_pos (by omega)) h181) (fun _ => ?_)
        refine V_aload_n (i := 0) dL_areHousesRight_184 rfl rfl ?_
        refine V_iload_n (i := 3) dL_areHousesRight_185 rfl rfl ?_
        refine Cv1_1 (d := 5) cv_L_78 dL_areHousesRight_186 (v_X7_shoeOf hA (j := k) (by omega) (v := nI a) ea) (hp0 hA) rfl rfl (Nat.le_of_ble_eq_true rfl) ⟨Nat.le_refl _, Nat.le_refl _⟩ (by decide) ⟨Nat.le_of_ble_eq_true rfl, Nat.le_of_ble_eq_true rfl⟩ ?_
        refine V_bipush (v := (nI 20)) dL_areHousesRight_189 (by decide) ?_
        refine V_icmp_gt (tgt := 198) dL_areHousesRight_191 (by decide) (fun h191 => by first | exact absurd h191 (nI_nlt ha (by decide)) | exact absurd (nI_nlt ha (by decide)) h191) (fun _ => ?_)
        refine V_iconst (v := (nI 1)) dL_areHousesRight_194 (by decide) ?_
        refine V_goto (tgt := 199) dL_areHousesRight_195 (by decide) ?_
        refine V_istore_n (i := 1) dL_areHousesRight_199 rfl (by decide) ?_
        refine V_iinc (i := 3) dL_areHousesRight_200 rfl (inc1 _) (by decide) ?_
        refine V_goto (tgt := 149) dL_areHousesRight_203 (by decide) ?_
        rw [e9] at k9
        exact V.fin [3, 1, 2, 0] rfl rfl k9
      · have e9 : sm (S_worn (σ.1 5 0)) (k + 1) = sm (S_worn (σ.1 5 0)) k + nI 1 := by
          rw [sm, S_worn, ea, if_neg (show ¬ (20 : Int32) ≤ nI a from h162)]
          rfl
        refine V_iconst (v := (nI 1)) dL_areHousesRight_165 (by decide) ?_
        refine V_goto (tgt := 170) dL_areHousesRight_166 (by decide) ?_
        refine V_iadd dL_areHousesRight_170 ?_
        refine V_istore_n (i := 2) dL_areHousesRight_171 rfl (by decide) ?_
        refine V_iload_n (i := 1) dL_areHousesRight_172 rfl rfl ?_
        refine V_if_eq (tgt := 198) dL_areHousesRight_173 (by decide) (fun h173 => by first | exact absurd h173 (by decide) | exact absurd (by decide) h173) (fun _ => ?_)
        refine V_aload_n (i := 0) dL_areHousesRight_176 rfl rfl ?_
        refine V_iload_n (i := 3) dL_areHousesRight_177 rfl rfl ?_
        refine Cv1_1 (d := 5) cv_L_78 dL_areHousesRight_178 (v_X7_shoeOf hA (j := k) (by omega) (v := nI a) ea) (hp0 hA) rfl rfl (Nat.le_of_ble_eq_true rfl) ⟨Nat.le_refl _, Nat.le_refl _⟩ (by decide) ⟨Nat.le_of_ble_eq_true rfl, Nat.le_of_ble_eq_true rfl⟩ ?_
        refine V_if_lt (tgt := 198) dL_areHousesRight_181 (by decide) (fun h181 => by first | exact absurd h181 (nI_pos (by omega)) | exact absurd (nI_pos (by omega)) h181) (fun _ => ?_)
        refine V_aload_n (i := 0) dL_areHousesRight_184 rfl rfl ?_
        refine V_iload_n (i := 3) dL_areHousesRight_185 rfl rfl ?_
        refine Cv1_1 (d := 5) cv_L_78 dL_areHousesRight_186 (v_X7_shoeOf hA (j := k) (by omega) (v := nI a) ea) (hp0 hA) rfl rfl (Nat.le_of_ble_eq_true rfl) ⟨Nat.le_refl _, Nat.le_refl _⟩ (by decide) ⟨Nat.le_of_ble_eq_true rfl, Nat.le_of_ble_eq_true rfl⟩ ?_
        refine V_bipush (v := (nI 20)) dL_areHousesRight_189 (by decide) ?_
        refine V_icmp_gt (tgt := 198) dL_areHousesRight_191 (by decide) (fun h191 => by first | exact absurd h191 (nI_nlt ha (by decide)) | exact absurd (nI_nlt ha (by decide)) h191) (fun _ => ?_)
        refine V_iconst (v := (nI 1)) dL_areHousesRight_194 (by decide) ?_
        refine V_goto (tgt := 199) dL_areHousesRight_195 (by decide) ?_
        refine V_istore_n (i := 1) dL_areHousesRight_199 rfl (by decide) ?_
        refine V_iinc (i := 3) dL_areHousesRight_200 rfl (inc1 _) (by decide) ?_
        refine V_goto (tgt := 149) dL_areHousesRight_203 (by decide) ?_
        rw [e9] at k9
        exact V.fin [3, 1, 2, 0] rfl rfl k9
  have lh : ∀ n i : Nat, i + n = nh → V D s0 RL "areHousesRight" cL_areHousesRight 8 ((some .boolean)) [] l (rmd 5 0 0) (Zm D s0 0 0 (fun r G' => r = some (.int 1) ∧ G' = HP A σ) noX) 4 [(0, .ref (A 0 0 0)), (1, .int (nI 1)), (2, .int (nI i))] [] (HP A σ) 0 0 := by
    intro n
    induction n with
    | zero =>
      intro i hi9
      obtain rfl : i = nh := by omega
      refine V_iload_n (i := 2) dL_areHousesRight_4 rfl rfl ?_
      refine V_aload_n (i := 0) dL_areHousesRight_5 rfl rfl ?_
      refine V_iconst (v := (nI 1)) dL_areHousesRight_6 (by decide) ?_
      refine Cv1_1 (d := 5) cv_L_38 dL_areHousesRight_7 (v_X7_account hA h1 hn (q := 1) (by decide) (v := nI i) h1) (hp0 hA) rfl rfl (Nat.le_of_ble_eq_true rfl) ⟨Nat.le_refl _, Nat.le_refl _⟩ (by decide) ⟨Nat.le_of_ble_eq_true rfl, Nat.le_of_ble_eq_true rfl⟩ ?_
      refine V_icmp_ge (tgt := 145) dL_areHousesRight_10 (by decide) (fun _ => ?_) (fun h10 => by first | exact absurd (nI_le (Nat.le_refl _) (by omega)) h10 | exact absurd h10 (nI_le (Nat.le_refl _) (by omega)))
      refine V_iconst (v := (nI 0)) dL_areHousesRight_145 (by decide) ?_
      refine V_istore_n (i := 2) dL_areHousesRight_146 rfl (by decide) ?_
      refine V_iconst (v := (nI 0)) dL_areHousesRight_147 (by decide) ?_
      refine V_istore_n (i := 3) dL_areHousesRight_148 rfl (by decide) ?_
      exact V.fin [2, 3, 1, 0] rfl rfl (ls 4 0 (by omega))
    | succ n ih =>
      intro i hi9
      have hi8 : i < nh := by omega
      have k9 := ih (i + 1) (by omega)
      obtain ⟨d, hd, ed⟩ := hF.2.1.h (i := i) (f := 3) (by omega) (by decide) rfl
      obtain ⟨a, ha, ea⟩ := hF.2.1.h (i := i) (f := 4) (by omega) (by decide) rfl
      obtain ⟨f, hf, ef⟩ := hF.2.1.h (i := i) (f := 5) (by omega) (by decide) rfl
      rcases lets_c hF.2 (i := i) (by omega) with ⟨el, eg | eg | eg⟩ | ⟨eg, el⟩ | ⟨eg, el | el | el⟩
      ·
        refine V_iload_n (i := 2) dL_areHousesRight_4 rfl rfl ?_
        refine V_aload_n (i := 0) dL_areHousesRight_5 rfl rfl ?_
        refine V_iconst (v := (nI 1)) dL_areHousesRight_6 (by decide) ?_
        refine Cv1_1 (d := 5) cv_L_38 dL_areHousesRight_7 (v_X7_account hA h1 hn (q := 1) (by decide) (v := nI nh) h1) (hp0 hA) rfl rfl (Nat.le_of_ble_eq_true rfl) ⟨Nat.le_refl _, Nat.le_refl _⟩ (by decide) ⟨Nat.le_of_ble_eq_true rfl, Nat.le_of_ble_eq_true rfl⟩ ?_
        refine V_icmp_ge (tgt := 145) dL_areHousesRight_10 (by decide) (fun h10 => by first | exact absurd h10 (nI_ge (by omega) (by omega)) | exact absurd (nI_ge (by omega) (by omega)) h10) (fun _ => ?_)
        refine V_aload_n (i := 0) dL_areHousesRight_13 rfl rfl ?_
        refine V_iload_n (i := 2) dL_areHousesRight_14 rfl rfl ?_
        refine V_iconst (v := (nI 1)) dL_areHousesRight_15 (by decide) ?_
        refine Cv1_2 (d := 5) cv_L_72 dL_areHousesRight_16 (v_X7_houseOf hA h1 hn (j := i) (q := 1) hi8 (by decide) (v := nI 0) eg) (hp0 hA) rfl rfl (Nat.le_of_ble_eq_true rfl) ⟨Nat.le_refl _, Nat.le_refl _⟩ (by decide) ⟨Nat.le_of_ble_eq_true rfl, Nat.le_of_ble_eq_true rfl⟩ ?_
        refine V_istore_n (i := 3) dL_areHousesRight_19 rfl (by decide) ?_
        refine V_aload_n (i := 0) dL_areHousesRight_20 rfl rfl ?_
        refine V_iload_n (i := 2) dL_areHousesRight_21 rfl rfl ?_
        refine V_bipush (v := (nI 6)) dL_areHousesRight_22 (by decide) ?_
        refine Cv1_2 (d := 5) cv_L_72 dL_areHousesRight_24 (v_X7_houseOf hA h1 hn (j := i) (q := 6) hi8 (by decide) (v := nI 99) el) (hp0 hA) rfl rfl (Nat.le_of_ble_eq_true rfl) ⟨Nat.le_refl _, Nat.le_refl _⟩ (by decide) ⟨Nat.le_of_ble_eq_true rfl, Nat.le_of_ble_eq_true rfl⟩ ?_
        refine V_istore (i := 4) dL_areHousesRight_27 (by decide) ?_
        refine V_iload_n (i := 1) dL_areHousesRight_29 rfl rfl ?_
        refine V_if_eq (tgt := 137) dL_areHousesRight_30 (by decide) (fun h30 => by first | exact absurd h30 (by decide) | exact absurd (by decide) h30) (fun _ => ?_)
        refine V_aload_n (i := 0) dL_areHousesRight_33 rfl rfl ?_
        refine V_iload_n (i := 2) dL_areHousesRight_34 rfl rfl ?_
        refine V_iconst (v := (nI 3)) dL_areHousesRight_35 (by decide) ?_
        refine Cv1_2 (d := 5) cv_L_72 dL_areHousesRight_36 (v_X7_houseOf hA h1 hn (j := i) (q := 3) hi8 (by decide) (v := nI d) ed) (hp0 hA) rfl rfl (Nat.le_of_ble_eq_true rfl) ⟨Nat.le_refl _, Nat.le_refl _⟩ (by decide) ⟨Nat.le_of_ble_eq_true rfl, Nat.le_of_ble_eq_true rfl⟩ ?_
        refine V_if_lt (tgt := 137) dL_areHousesRight_39 (by decide) (fun h39 => by first | exact absurd h39 (nI_pos (by omega)) | exact absurd (nI_pos (by omega)) h39) (fun _ => ?_)
        refine V_aload_n (i := 0) dL_areHousesRight_42 rfl rfl ?_
        refine V_iload_n (i := 2) dL_areHousesRight_43 rfl rfl ?_
        refine V_iconst (v := (nI 3)) dL_areHousesRight_44 (by decide) ?_
        refine Cv1_2 (d := 5) cv_L_72 dL_areHousesRight_45 (v_X7_houseOf hA h1 hn (j := i) (q := 3) hi8 (by decide) (v := nI d) ed) (hp0 hA) rfl rfl (Nat.le_of_ble_eq_true rfl) ⟨Nat.le_refl _, Nat.le_refl _⟩ (by decide) ⟨Nat.le_of_ble_eq_true rfl, Nat.le_of_ble_eq_true rfl⟩ ?_
        refine V_bipush (v := (nI 20)) dL_areHousesRight_48 (by decide) ?_
        refine V_icmp_gt (tgt := 137) dL_areHousesRight_50 (by decide) (fun h50 => by first | exact absurd h50 (nI_nlt hd (by decide)) | exact absurd (nI_nlt hd (by decide)) h50) (fun _ => ?_)
        refine V_aload_n (i := 0) dL_areHousesRight_53 rfl rfl ?_
        refine V_iload_n (i := 2) dL_areHousesRight_54 rfl rfl ?_
        refine V_iconst (v := (nI 4)) dL_areHousesRight_55 (by decide) ?_
        refine Cv1_2 (d := 5) cv_L_72 dL_areHousesRight_56 (v_X7_houseOf hA h1 hn (j := i) (q := 4) hi8 (by decide) (v := nI a) ea) (hp0 hA) rfl rfl (Nat.le_of_ble_eq_true rfl) ⟨Nat.le_refl _, Nat.le_refl _⟩ (by decide) ⟨Nat.le_of_ble_eq_true rfl, Nat.le_of_ble_eq_true rfl⟩ ?_
        refine V_if_lt (tgt := 137) dL_areHousesRight_59 (by decide) (fun h59 => by first | exact absurd h59 (nI_pos (by omega)) | exact absurd (nI_pos (by omega)) h59) (fun _ => ?_)
        refine V_aload_n (i := 0) dL_areHousesRight_62 rfl rfl ?_
        refine V_iload_n (i := 2) dL_areHousesRight_63 rfl rfl ?_
        refine V_iconst (v := (nI 5)) dL_areHousesRight_64 (by decide) ?_
        refine Cv1_2 (d := 5) cv_L_72 dL_areHousesRight_65 (v_X7_houseOf hA h1 hn (j := i) (q := 5) hi8 (by decide) (v := nI f) ef) (hp0 hA) rfl rfl (Nat.le_of_ble_eq_true rfl) ⟨Nat.le_refl _, Nat.le_refl _⟩ (by decide) ⟨Nat.le_of_ble_eq_true rfl, Nat.le_of_ble_eq_true rfl⟩ ?_
        refine V_if_lt (tgt := 137) dL_areHousesRight_68 (by decide) (fun h68 => by first | exact absurd h68 (nI_pos (by omega)) | exact absurd (nI_pos (by omega)) h68) (fun _ => ?_)
        refine V_aload_n (i := 0) dL_areHousesRight_71 rfl rfl ?_
        refine V_iload_n (i := 2) dL_areHousesRight_72 rfl rfl ?_
        refine Cv1_1 (d := 5) cv_L_99 dL_areHousesRight_73 (v_X7_isQuiet hA h1 hn hi8 (v := nI 1) (by rw [el]; decide)) (hp0 hA) rfl rfl (Nat.le_of_ble_eq_true rfl) ⟨Nat.le_refl _, Nat.le_refl _⟩ (by decide) ⟨Nat.le_of_ble_eq_true rfl, Nat.le_of_ble_eq_true rfl⟩ ?_
        refine V_iload (i := 4) dL_areHousesRight_76 rfl ?_
        refine V_if_le (tgt := 85) dL_areHousesRight_78 (by decide) (fun h78 => by first | exact absurd h78 (by decide) | exact absurd (by decide) h78) (fun _ => ?_)
        refine V_iconst (v := (nI 1)) dL_areHousesRight_81 (by decide) ?_
        refine V_goto (tgt := 86) dL_areHousesRight_82 (by decide) ?_
        refine V_icmp_ne (tgt := 137) dL_areHousesRight_86 (by decide) (fun h86 => by first | exact absurd h86 (fun z => z rfl) | exact absurd (fun z => z rfl) h86) (fun _ => ?_)
        refine V_iload (i := 4) dL_areHousesRight_89 rfl ?_
        refine V_bipush (v := (nI 99)) dL_areHousesRight_91 (by decide) ?_
        refine V_icmp_eq (tgt := 122) dL_areHousesRight_93 (by decide) (fun _ => ?_) (fun h93 => by first | exact absurd (by decide) h93 | exact absurd h93 (by decide))
        refine V_iload_n (i := 3) dL_areHousesRight_122 rfl rfl ?_
        refine V_if_ne (tgt := 133) dL_areHousesRight_123 (by decide) (fun h123 => by first | exact absurd h123 (by decide) | exact absurd (by decide) h123) (fun _ => ?_)
        refine V_iload (i := 4) dL_areHousesRight_126 rfl ?_
        refine V_bipush (v := (nI 99)) dL_areHousesRight_128 (by decide) ?_
        refine V_icmp_ne (tgt := 137) dL_areHousesRight_130 (by decide) (fun h130 => by first | exact absurd h130 (by decide) | exact absurd (by decide) h130) (fun _ => ?_)
        refine V_iconst (v := (nI 1)) dL_areHousesRight_133 (by decide) ?_
        refine V_goto (tgt := 138) dL_areHousesRight_134 (by decide) ?_
        refine V_istore_n (i := 1) dL_areHousesRight_138 rfl (by decide) ?_
        refine V_iinc (i := 2) dL_areHousesRight_139 rfl (inc1 _) (by decide) ?_
        refine V_goto (tgt := 4) dL_areHousesRight_142 (by decide) ?_
        exact V.fin [4, 1, 0] rfl rfl k9
      ·
        refine V_iload_n (i := 2) dL_areHousesRight_4 rfl rfl ?_
        refine V_aload_n (i := 0) dL_areHousesRight_5 rfl rfl ?_
        refine V_iconst (v := (nI 1)) dL_areHousesRight_6 (by decide) ?_
        refine Cv1_1 (d := 5) cv_L_38 dL_areHousesRight_7 (v_X7_account hA h1 hn (q := 1) (by decide) (v := nI nh) h1) (hp0 hA) rfl rfl (Nat.le_of_ble_eq_true rfl) ⟨Nat.le_refl _, Nat.le_refl _⟩ (by decide) ⟨Nat.le_of_ble_eq_true rfl, Nat.le_of_ble_eq_true rfl⟩ ?_
        refine V_icmp_ge (tgt := 145) dL_areHousesRight_10 (by decide) (fun h10 => by first | exact absurd h10 (nI_ge (by omega) (by omega)) | exact absurd (nI_ge (by omega) (by omega)) h10) (fun _ => ?_)
        refine V_aload_n (i := 0) dL_areHousesRight_13 rfl rfl ?_
        refine V_iload_n (i := 2) dL_areHousesRight_14 rfl rfl ?_
        refine V_iconst (v := (nI 1)) dL_areHousesRight_15 (by decide) ?_
        refine Cv1_2 (d := 5) cv_L_72 dL_areHousesRight_16 (v_X7_houseOf hA h1 hn (j := i) (q := 1) hi8 (by decide) (v := nI 1) eg) (hp0 hA) rfl rfl (Nat.le_of_ble_eq_true rfl) ⟨Nat.le_refl _, Nat.le_refl _⟩ (by decide) ⟨Nat.le_of_ble_eq_true rfl, Nat.le_of_ble_eq_true rfl⟩ ?_
        refine V_istore_n (i := 3) dL_areHousesRight_19 rfl (by decide) ?_
        refine V_aload_n (i := 0) dL_areHousesRight_20 rfl rfl ?_
        refine V_iload_n (i := 2) dL_areHousesRight_21 rfl rfl ?_
        refine V_bipush (v := (nI 6)) dL_areHousesRight_22 (by decide) ?_
        refine Cv1_2 (d := 5) cv_L_72 dL_areHousesRight_24 (v_X7_houseOf hA h1 hn (j := i) (q := 6) hi8 (by decide) (v := nI 99) el) (hp0 hA) rfl rfl (Nat.le_of_ble_eq_true rfl) ⟨Nat.le_refl _, Nat.le_refl _⟩ (by decide) ⟨Nat.le_of_ble_eq_true rfl, Nat.le_of_ble_eq_true rfl⟩ ?_
        refine V_istore (i := 4) dL_areHousesRight_27 (by decide) ?_
        refine V_iload_n (i := 1) dL_areHousesRight_29 rfl rfl ?_
        refine V_if_eq (tgt := 137) dL_areHousesRight_30 (by decide) (fun h30 => by first | exact absurd h30 (by decide) | exact absurd (by decide) h30) (fun _ => ?_)
        refine V_aload_n (i := 0) dL_areHousesRight_33 rfl rfl ?_
        refine V_iload_n (i := 2) dL_areHousesRight_34 rfl rfl ?_
        refine V_iconst (v := (nI 3)) dL_areHousesRight_35 (by decide) ?_
        refine Cv1_2 (d := 5) cv_L_72 dL_areHousesRight_36 (v_X7_houseOf hA h1 hn (j := i) (q := 3) hi8 (by decide) (v := nI d) ed) (hp0 hA) rfl rfl (Nat.le_of_ble_eq_true rfl) ⟨Nat.le_refl _, Nat.le_refl _⟩ (by decide) ⟨Nat.le_of_ble_eq_true rfl, Nat.le_of_ble_eq_true rfl⟩ ?_
        refine V_if_lt (tgt := 137) dL_areHousesRight_39 (by decide) (fun h39 => by first | exact absurd h39 (nI_pos (by omega)) | exact absurd (nI_pos (by omega)) h39) (fun _ => ?_)
        refine V_aload_n (i := 0) dL_areHousesRight_42 rfl rfl ?_
        refine V_iload_n (i := 2) dL_areHousesRight_43 rfl rfl ?_
        refine V_iconst (v := (nI 3)) dL_areHousesRight_44 (by decide) ?_
        refine Cv1_2 (d := 5) cv_L_72 dL_areHousesRight_45 (v_X7_houseOf hA h1 hn (j := i) (q := 3) hi8 (by decide) (v := nI d) ed) (hp0 hA) rfl rfl (Nat.le_of_ble_eq_true rfl) ⟨Nat.le_refl _, Nat.le_refl _⟩ (by decide) ⟨Nat.le_of_ble_eq_true rfl, Nat.le_of_ble_eq_true rfl⟩ ?_
        refine V_bipush (v := (nI 20)) dL_areHousesRight_48 (by decide) ?_
        refine V_icmp_gt (tgt := 137) dL_areHousesRight_50 (by decide) (fun h50 => by first | exact absurd h50 (nI_nlt hd (by decide)) | exact absurd (nI_nlt hd (by decide)) h50) (fun _ => ?_)
        refine V_aload_n (i := 0) dL_areHousesRight_53 rfl rfl ?_
        refine V_iload_n (i := 2) dL_areHousesRight_54 rfl rfl ?_
        refine V_iconst (v := (nI 4)) dL_areHousesRight_55 (by decide) ?_
        refine Cv1_2 (d := 5) cv_L_72 dL_areHousesRight_56 (v_X7_houseOf hA h1 hn (j := i) (q := 4) hi8 (by decide) (v := nI a) ea) (hp0 hA) rfl rfl (Nat.le_of_ble_eq_true rfl) ⟨Nat.le_refl _, Nat.le_refl _⟩ (by decide) ⟨Nat.le_of_ble_eq_true rfl, Nat.le_of_ble_eq_true rfl⟩ ?_
        refine V_if_lt (tgt := 137) dL_areHousesRight_59 (by decide) (fun h59 => by first | exact absurd h59 (nI_pos (by omega)) | exact absurd (nI_pos (by omega)) h59) (fun _ => ?_)
        refine V_aload_n (i := 0) dL_areHousesRight_62 rfl rfl ?_
        refine V_iload_n (i := 2) dL_areHousesRight_63 rfl rfl ?_
        refine V_iconst (v := (nI 5)) dL_areHousesRight_64 (by decide) ?_
        refine Cv1_2 (d := 5) cv_L_72 dL_areHousesRight_65 (v_X7_houseOf hA h1 hn (j := i) (q := 5) hi8 (by decide) (v := nI f) ef) (hp0 hA) rfl rfl (Nat.le_of_ble_eq_true rfl) ⟨Nat.le_refl _, Nat.le_refl _⟩ (by decide) ⟨Nat.le_of_ble_eq_true rfl, Nat.le_of_ble_eq_true rfl⟩ ?_
        refine V_if_lt (tgt := 137) dL_areHousesRight_68 (by decide) (fun h68 => by first | exact absurd h68 (nI_pos (by omega)) | exact absurd (nI_pos (by omega)) h68) (fun _ => ?_)
        refine V_aload_n (i := 0) dL_areHousesRight_71 rfl rfl ?_
        refine V_iload_n (i := 2) dL_areHousesRight_72 rfl rfl ?_
        refine Cv1_1 (d := 5) cv_L_99 dL_areHousesRight_73 (v_X7_isQuiet hA h1 hn hi8 (v := nI 1) (by rw [el]; decide)) (hp0 hA) rfl rfl (Nat.le_of_ble_eq_true rfl) ⟨Nat.le_refl _, Nat.le_refl _⟩ (by decide) ⟨Nat.le_of_ble_eq_true rfl, Nat.le_of_ble_eq_true rfl⟩ ?_
        refine V_iload (i := 4) dL_areHousesRight_76 rfl ?_
        refine V_if_le (tgt := 85) dL_areHousesRight_78 (by decide) (fun h78 => by first | exact absurd h78 (by decide) | exact absurd (by decide) h78) (fun _ => ?_)
        refine V_iconst (v := (nI 1)) dL_areHousesRight_81 (by decide) ?_
        refine V_goto (tgt := 86) dL_areHousesRight_82 (by decide) ?_
        refine V_icmp_ne (tgt := 137) dL_areHousesRight_86 (by decide) (fun h86 => by first | exact absurd h86 (fun z => z rfl) | exact absurd (fun z => z rfl) h86) (fun _ => ?_)
        refine V_iload (i := 4) dL_areHousesRight_89 rfl ?_
        refine V_bipush (v := (nI 99)) dL_areHousesRight_91 (by decide) ?_
        refine V_icmp_eq (tgt := 122) dL_areHousesRight_93 (by decide) (fun _ => ?_) (fun h93 => by first | exact absurd (by decide) h93 | exact absurd h93 (by decide))
        refine V_iload_n (i := 3) dL_areHousesRight_122 rfl rfl ?_
        refine V_if_ne (tgt := 133) dL_areHousesRight_123 (by decide) (fun _ => ?_) (fun h123 => by first | exact absurd (by decide) h123 | exact absurd h123 (by decide))
        refine V_iconst (v := (nI 1)) dL_areHousesRight_133 (by decide) ?_
        refine V_goto (tgt := 138) dL_areHousesRight_134 (by decide) ?_
        refine V_istore_n (i := 1) dL_areHousesRight_138 rfl (by decide) ?_
        refine V_iinc (i := 2) dL_areHousesRight_139 rfl (inc1 _) (by decide) ?_
        refine V_goto (tgt := 4) dL_areHousesRight_142 (by decide) ?_
        exact V.fin [4, 1, 0] rfl rfl k9
      ·
        refine V_iload_n (i := 2) dL_areHousesRight_4 rfl rfl ?_
        refine V_aload_n (i := 0) dL_areHousesRight_5 rfl rfl ?_
        refine V_iconst (v := (nI 1)) dL_areHousesRight_6 (by decide) ?_
        refine Cv1_1 (d := 5) cv_L_38 dL_areHousesRight_7 (v_X7_account hA h1 hn (q := 1) (by decide) (v := nI nh) h1) (hp0 hA) rfl rfl (Nat.le_of_ble_eq_true rfl) ⟨Nat.le_refl _, Nat.le_refl _⟩ (by decide) ⟨Nat.le_of_ble_eq_true rfl, Nat.le_of_ble_eq_true rfl⟩ ?_
        refine V_icmp_ge (tgt := 145) dL_areHousesRight_10 (by decide) (fun h10 => by first | exact absurd h10 (nI_ge (by omega) (by omega)) | exact absurd (nI_ge (by omega) (by omega)) h10) (fun _ => ?_)
        refine V_aload_n (i := 0) dL_areHousesRight_13 rfl rfl ?_
        refine V_iload_n (i := 2) dL_areHousesRight_14 rfl rfl ?_
        refine V_iconst (v := (nI 1)) dL_areHousesRight_15 (by decide) ?_
        refine Cv1_2 (d := 5) cv_L_72 dL_areHousesRight_16 (v_X7_houseOf hA h1 hn (j := i) (q := 1) hi8 (by decide) (v := nI 2) eg) (hp0 hA) rfl rfl (Nat.le_of_ble_eq_true rfl) ⟨Nat.le_refl _, Nat.le_refl _⟩ (by decide) ⟨Nat.le_of_ble_eq_true rfl, Nat.le_of_ble_eq_true rfl⟩ ?_
        refine V_istore_n (i := 3) dL_areHousesRight_19 rfl (by decide) ?_
        refine V_aload_n (i := 0) dL_areHousesRight_20 rfl rfl ?_
        refine V_iload_n (i := 2) dL_areHousesRight_21 rfl rfl ?_
        refine V_bipush (v := (nI 6)) dL_areHousesRight_22 (by decide) ?_
        refine Cv1_2 (d := 5) cv_L_72 dL_areHousesRight_24 (v_X7_houseOf hA h1 hn (j := i) (q := 6) hi8 (by decide) (v := nI 99) el) (hp0 hA) rfl rfl (Nat.le_of_ble_eq_true rfl) ⟨Nat.le_refl _, Nat.le_refl _⟩ (by decide) ⟨Nat.le_of_ble_eq_true rfl, Nat.le_of_ble_eq_true rfl⟩ ?_
        refine V_istore (i := 4) dL_areHousesRight_27 (by decide) ?_
        refine V_iload_n (i := 1) dL_areHousesRight_29 rfl rfl ?_
        refine V_if_eq (tgt := 137) dL_areHousesRight_30 (by decide) (fun h30 => by first | exact absurd h30 (by decide) | exact absurd (by decide) h30) (fun _ => ?_)
        refine V_aload_n (i := 0) dL_areHousesRight_33 rfl rfl ?_
        refine V_iload_n (i := 2) dL_areHousesRight_34 rfl rfl ?_
        refine V_iconst (v := (nI 3)) dL_areHousesRight_35 (by decide) ?_
        refine Cv1_2 (d := 5) cv_L_72 dL_areHousesRight_36 (v_X7_houseOf hA h1 hn (j := i) (q := 3) hi8 (by decide) (v := nI d) ed) (hp0 hA) rfl rfl (Nat.le_of_ble_eq_true rfl) ⟨Nat.le_refl _, Nat.le_refl _⟩ (by decide) ⟨Nat.le_of_ble_eq_true rfl, Nat.le_of_ble_eq_true rfl⟩ ?_
        refine V_if_lt (tgt := 137) dL_areHousesRight_39 (by decide) (fun h39 => by first | exact absurd h39 (nI_pos (by omega)) | exact absurd (nI_pos (by omega)) h39) (fun _ => ?_)
        refine V_aload_n (i := 0) dL_areHousesRight_42 rfl rfl ?_
        refine V_iload_n (i := 2) dL_areHousesRight_43 rfl rfl ?_
        refine V_iconst (v := (nI 3)) dL_areHousesRight_44 (by decide) ?_
        refine Cv1_2 (d := 5) cv_L_72 dL_areHousesRight_45 (v_X7_houseOf hA h1 hn (j := i) (q := 3) hi8 (by decide) (v := nI d) ed) (hp0 hA) rfl rfl (Nat.le_of_ble_eq_true rfl) ⟨Nat.le_refl _, Nat.le_refl _⟩ (by decide) ⟨Nat.le_of_ble_eq_true rfl, Nat.le_of_ble_eq_true rfl⟩ ?_
        refine V_bipush (v := (nI 20)) dL_areHousesRight_48 (by decide) ?_
        refine V_icmp_gt (tgt := 137) dL_areHousesRight_50 (by decide) (fun h50 => by first | exact absurd h50 (nI_nlt hd (by decide)) | exact absurd (nI_nlt hd (by decide)) h50) (fun _ => ?_)
        refine V_aload_n (i := 0) dL_areHousesRight_53 rfl rfl ?_
        refine V_iload_n (i := 2) dL_areHousesRight_54 rfl rfl ?_
        refine V_iconst (v := (nI 4)) dL_areHousesRight_55 (by decide) ?_
        refine Cv1_2 (d := 5) cv_L_72 dL_areHousesRight_56 (v_X7_houseOf hA h1 hn (j := i) (q := 4) hi8 (by decide) (v := nI a) ea) (hp0 hA) rfl rfl (Nat.le_of_ble_eq_true rfl) ⟨Nat.le_refl _, Nat.le_refl _⟩ (by decide) ⟨Nat.le_of_ble_eq_true rfl, Nat.le_of_ble_eq_true rfl⟩ ?_
        refine V_if_lt (tgt := 137) dL_areHousesRight_59 (by decide) (fun h59 => by first | exact absurd h59 (nI_pos (by omega)) | exact absurd (nI_pos (by omega)) h59) (fun _ => ?_)
        refine V_aload_n (i := 0) dL_areHousesRight_62 rfl rfl ?_
        refine V_iload_n (i := 2) dL_areHousesRight_63 rfl rfl ?_
        refine V_iconst (v := (nI 5)) dL_areHousesRight_64 (by decide) ?_
        refine Cv1_2 (d := 5) cv_L_72 dL_areHousesRight_65 (v_X7_houseOf hA h1 hn (j := i) (q := 5) hi8 (by decide) (v := nI f) ef) (hp0 hA) rfl rfl (Nat.le_of_ble_eq_true rfl) ⟨Nat.le_refl _, Nat.le_refl _⟩ (by decide) ⟨Nat.le_of_ble_eq_true rfl, Nat.le_of_ble_eq_true rfl⟩ ?_
        refine V_if_lt (tgt := 137) dL_areHousesRight_68 (by decide) (fun h68 => by first | exact absurd h68 (nI_pos (by omega)) | exact absurd (nI_pos (by omega)) h68) (fun _ => ?_)
        refine V_aload_n (i := 0) dL_areHousesRight_71 rfl rfl ?_
        refine V_iload_n (i := 2) dL_areHousesRight_72 rfl rfl ?_
        refine Cv1_1 (d := 5) cv_L_99 dL_areHousesRight_73 (v_X7_isQuiet hA h1 hn hi8 (v := nI 1) (by rw [el]; decide)) (hp0 hA) rfl rfl (Nat.le_of_ble_eq_true rfl) ⟨Nat.le_refl _, Nat.le_refl _⟩ (by decide) ⟨Nat.le_of_ble_eq_true rfl, Nat.le_of_ble_eq_true rfl⟩ ?_
        refine V_iload (i := 4) dL_areHousesRight_76 rfl ?_
        refine V_if_le (tgt := 85) dL_areHousesRight_78 (by decide) (fun h78 => by first | exact absurd h78 (by decide) | exact absurd (by decide) h78) (fun _ => ?_)
        refine V_iconst (v := (nI 1)) dL_areHousesRight_81 (by decide) ?_
        refine V_goto (tgt := 86) dL_areHousesRight_82 (by decide) ?_
        refine V_icmp_ne (tgt := 137) dL_areHousesRight_86 (by decide) (fun h86 => by first | exact absurd h86 (fun z => z rfl) | exact absurd (fun z => z rfl) h86) (fun _ => ?_)
        refine V_iload (i := 4) dL_areHousesRight_89 rfl ?_
        refine V_bipush (v := (nI 99)) dL_areHousesRight_91 (by decide) ?_
        refine V_icmp_eq (tgt := 122) dL_areHousesRight_93 (by decide) (fun _ => ?_) (fun h93 => by first | exact absurd (by decide) h93 | exact absurd h93 (by decide))
        refine V_iload_n (i := 3) dL_areHousesRight_122 rfl rfl ?_
        refine V_if_ne (tgt := 133) dL_areHousesRight_123 (by decide) (fun _ => ?_) (fun h123 => by first | exact absurd (by decide) h123 | exact absurd h123 (by decide))
        refine V_iconst (v := (nI 1)) dL_areHousesRight_133 (by decide) ?_
        refine V_goto (tgt := 138) dL_areHousesRight_134 (by decide) ?_
        refine V_istore_n (i := 1) dL_areHousesRight_138 rfl (by decide) ?_
        refine V_iinc (i := 2) dL_areHousesRight_139 rfl (inc1 _) (by decide) ?_
        refine V_goto (tgt := 4) dL_areHousesRight_142 (by decide) ?_
        exact V.fin [4, 1, 0] rfl rfl k9
      ·
        refine V_iload_n (i := 2) dL_areHousesRight_4 rfl rfl ?_
        refine V_aload_n (i := 0) dL_areHousesRight_5 rfl rfl ?_
        refine V_iconst (v := (nI 1)) dL_areHousesRight_6 (by decide) ?_
        refine Cv1_1 (d := 5) cv_L_38 dL_areHousesRight_7 (v_X7_account hA h1 hn (q := 1) (by decide) (v := nI nh) h1) (hp0 hA) rfl rfl (Nat.le_of_ble_eq_true rfl) ⟨Nat.le_refl _, Nat.le_refl _⟩ (by decide) ⟨Nat.le_of_ble_eq_true rfl, Nat.le_of_ble_eq_true rfl⟩ ?_
        refine V_icmp_ge (tgt := 145) dL_areHousesRight_10 (by decide) (fun h10 => by first | exact absurd h10 (nI_ge (by omega) (by omega)) | exact absurd (nI_ge (by omega) (by omega)) h10) (fun _ => ?_)
        refine V_aload_n (i := 0) dL_areHousesRight_13 rfl rfl ?_
        refine V_iload_n (i := 2) dL_areHousesRight_14 rfl rfl ?_
        refine V_iconst (v := (nI 1)) dL_areHousesRight_15 (by decide) ?_
        refine Cv1_2 (d := 5) cv_L_72 dL_areHousesRight_16 (v_X7_houseOf hA h1 hn (j := i) (q := 1) hi8 (by decide) (v := nI 2) eg) (hp0 hA) rfl rfl (Nat.le_of_ble_eq_true rfl) ⟨Nat.le_refl _, Nat.le_refl _⟩ (by decide) ⟨Nat.le_of_ble_eq_true rfl, Nat.le_of_ble_eq_true rfl⟩ ?_
        refine V_istore_n (i := 3) dL_areHousesRight_19 rfl (by decide) ?_
        refine V_aload_n (i := 0) dL_areHousesRight_20 rfl rfl ?_
        refine V_iload_n (i := 2) dL_areHousesRight_21 rfl rfl ?_
        refine V_bipush (v := (nI 6)) dL_areHousesRight_22 (by decide) ?_
        refine Cv1_2 (d := 5) cv_L_72 dL_areHousesRight_24 (v_X7_houseOf hA h1 hn (j := i) (q := 6) hi8 (by decide) (v := nI 0) el) (hp0 hA) rfl rfl (Nat.le_of_ble_eq_true rfl) ⟨Nat.le_refl _, Nat.le_refl _⟩ (by decide) ⟨Nat.le_of_ble_eq_true rfl, Nat.le_of_ble_eq_true rfl⟩ ?_
        refine V_istore (i := 4) dL_areHousesRight_27 (by decide) ?_
        refine V_iload_n (i := 1) dL_areHousesRight_29 rfl rfl ?_
        refine V_if_eq (tgt := 137) dL_areHousesRight_30 (by decide) (fun h30 => by first | exact absurd h30 (by decide) | exact absurd (by decide) h30) (fun _ => ?_)
        refine V_aload_n (i := 0) dL_areHousesRight_33 rfl rfl ?_
        refine V_iload_n (i := 2) dL_areHousesRight_34 rfl rfl ?_
        refine V_iconst (v := (nI 3)) dL_areHousesRight_35 (by decide) ?_
        refine Cv1_2 (d := 5) cv_L_72 dL_areHousesRight_36 (v_X7_houseOf hA h1 hn (j := i) (q := 3) hi8 (by decide) (v := nI d) ed) (hp0 hA) rfl rfl (Nat.le_of_ble_eq_true rfl) ⟨Nat.le_refl _, Nat.le_refl _⟩ (by decide) ⟨Nat.le_of_ble_eq_true rfl, Nat.le_of_ble_eq_true rfl⟩ ?_
        refine V_if_lt (tgt := 137) dL_areHousesRight_39 (by decide) (fun h39 => by first | exact absurd h39 (nI_pos (by omega)) | exact absurd (nI_pos (by omega)) h39) (fun _ => ?_)
        refine V_aload_n (i := 0) dL_areHousesRight_42 rfl rfl ?_
        refine V_iload_n (i := 2) dL_areHousesRight_43 rfl rfl ?_
        refine V_iconst (v := (nI 3)) dL_areHousesRight_44 (by decide) ?_
        refine Cv1_2 (d := 5) cv_L_72 dL_areHousesRight_45 (v_X7_houseOf hA h1 hn (j := i) (q := 3) hi8 (by decide) (v := nI d) ed) (hp0 hA) rfl rfl (Nat.le_of_ble_eq_true rfl) ⟨Nat.le_refl _, Nat.le_refl _⟩ (by decide) ⟨Nat.le_of_ble_eq_true rfl, Nat.le_of_ble_eq_true rfl⟩ ?_
        refine V_bipush (v := (nI 20)) dL_areHousesRight_48 (by decide) ?_
        refine V_icmp_gt (tgt := 137) dL_areHousesRight_50 (by decide) (fun h50 => by first | exact absurd h50 (nI_nlt hd (by decide)) | exact absurd (nI_nlt hd (by decide)) h50) (fun _ => ?_)
        refine V_aload_n (i := 0) dL_areHousesRight_53 rfl rfl ?_
        refine V_iload_n (i := 2) dL_areHousesRight_54 rfl rfl ?_
        refine V_iconst (v := (nI 4)) dL_areHousesRight_55 (by decide) ?_
        refine Cv1_2 (d := 5) cv_L_72 dL_areHousesRight_56 (v_X7_houseOf hA h1 hn (j := i) (q := 4) hi8 (by decide) (v := nI a) ea) (hp0 hA) rfl rfl (Nat.le_of_ble_eq_true rfl) ⟨Nat.le_refl _, Nat.le_refl _⟩ (by decide) ⟨Nat.le_of_ble_eq_true rfl, Nat.le_of_ble_eq_true rfl⟩ ?_
        refine V_if_lt (tgt := 137) dL_areHousesRight_59 (by decide) (fun h59 => by first | exact absurd h59 (nI_pos (by omega)) | exact absurd (nI_pos (by omega)) h59) (fun _ => ?_)
        refine V_aload_n (i := 0) dL_areHousesRight_62 rfl rfl ?_
        refine V_iload_n (i := 2) dL_areHousesRight_63 rfl rfl ?_
        refine V_iconst (v := (nI 5)) dL_areHousesRight_64 (by decide) ?_
        refine Cv1_2 (d := 5) cv_L_72 dL_areHousesRight_65 (v_X7_houseOf hA h1 hn (j := i) (q := 5) hi8 (by decide) (v := nI f) ef) (hp0 hA) rfl rfl (Nat.le_of_ble_eq_true rfl) ⟨Nat.le_refl _, Nat.le_refl _⟩ (by decide) ⟨Nat.le_of_ble_eq_true rfl, Nat.le_of_ble_eq_true rfl⟩ ?_
        refine V_if_lt (tgt := 137) dL_areHousesRight_68 (by decide) (fun h68 => by first | exact absurd h68 (nI_pos (by omega)) | exact absurd (nI_pos (by omega)) h68) (fun _ => ?_)
        refine V_aload_n (i := 0) dL_areHousesRight_71 rfl rfl ?_
        refine V_iload_n (i := 2) dL_areHousesRight_72 rfl rfl ?_
        refine Cv1_1 (d := 5) cv_L_99 dL_areHousesRight_73 (v_X7_isQuiet hA h1 hn hi8 (v := nI 0) (by rw [el]; decide)) (hp0 hA) rfl rfl (Nat.le_of_ble_eq_true rfl) ⟨Nat.le_refl _, Nat.le_refl _⟩ (by decide) ⟨Nat.le_of_ble_eq_true rfl, Nat.le_of_ble_eq_true rfl⟩ ?_
        refine V_iload (i := 4) dL_areHousesRight_76 rfl ?_
        refine V_if_le (tgt := 85) dL_areHousesRight_78 (by decide) (fun _ => ?_) (fun h78 => by first | exact absurd (by decide) h78 | exact absurd h78 (by decide))
        refine V_iconst (v := (nI 0)) dL_areHousesRight_85 (by decide) ?_
        refine V_icmp_ne (tgt := 137) dL_areHousesRight_86 (by decide) (fun h86 => by first | exact absurd h86 (fun z => z rfl) | exact absurd (fun z => z rfl) h86) (fun _ => ?_)
        refine V_iload (i := 4) dL_areHousesRight_89 rfl ?_
        refine V_bipush (v := (nI 99)) dL_areHousesRight_91 (by decide) ?_
        refine V_icmp_eq (tgt := 122) dL_areHousesRight_93 (by decide) (fun h93 => by first | exact absurd h93 (by decide) | exact absurd (by decide) h93) (fun _ => ?_)
        refine V_iload_n (i := 3) dL_areHousesRight_96 rfl rfl ?_
        refine V_iconst (v := (nI 1)) dL_areHousesRight_97 (by decide) ?_
        refine V_icmp_ne (tgt := 112) dL_areHousesRight_98 (by decide) (fun _ => ?_) (fun h98 => by first | exact absurd (by decide) h98 | exact absurd h98 (by decide))
        refine V_iload_n (i := 3) dL_areHousesRight_112 rfl rfl ?_
        refine V_iconst (v := (nI 2)) dL_areHousesRight_113 (by decide) ?_
        refine V_icmp_ne (tgt := 137) dL_areHousesRight_114 (by decide) (fun h114 => by first | exact absurd h114 (by decide) | exact absurd (by decide) h114) (fun _ => ?_)
        refine V_iload (i := 4) dL_areHousesRight_117 rfl ?_
        refine V_if_ne (tgt := 137) dL_areHousesRight_119 (by decide) (fun h119 => by first | exact absurd h119 (by decide) | exact absurd (by decide) h119) (fun _ => ?_)
        refine V_iload_n (i := 3) dL_areHousesRight_122 rfl rfl ?_
        refine V_if_ne (tgt := 133) dL_areHousesRight_123 (by decide) (fun _ => ?_) (fun h123 => by first | exact absurd (by decide) h123 | exact absurd h123 (by decide))
        refine V_iconst (v := (nI 1)) dL_areHousesRight_133 (by decide) ?_
        refine V_goto (tgt := 138) dL_areHousesRight_134 (by decide) ?_
        refine V_istore_n (i := 1) dL_areHousesRight_138 rfl (by decide) ?_
        refine V_iinc (i := 2) dL_areHousesRight_139 rfl (inc1 _) (by decide) ?_
        refine V_goto (tgt := 4) dL_areHousesRight_142 (by decide) ?_
        exact V.fin [4, 1, 0] rfl rfl k9
      ·
        refine V_iload_n (i := 2) dL_areHousesRight_4 rfl rfl ?_
        refine V_aload_n (i := 0) dL_areHousesRight_5 rfl rfl ?_
        refine V_iconst (v := (nI 1)) dL_areHousesRight_6 (by decide) ?_
        refine Cv1_1 (d := 5) cv_L_38 dL_areHousesRight_7 (v_X7_account hA h1 hn (q := 1) (by decide) (v := nI nh) h1) (hp0 hA) rfl rfl (Nat.le_of_ble_eq_true rfl) ⟨Nat.le_refl _, Nat.le_refl _⟩ (by decide) ⟨Nat.le_of_ble_eq_true rfl, Nat.le_of_ble_eq_true rfl⟩ ?_
        refine V_icmp_ge (tgt := 145) dL_areHousesRight_10 (by decide) (fun h10 => by first | exact absurd h10 (nI_ge (by omega) (by omega)) | exact absurd (nI_ge (by omega) (by omega)) h10) (fun _ => ?_)
        refine V_aload_n (i := 0) dL_areHousesRight_13 rfl rfl ?_
        refine V_iload_n (i := 2) dL_areHousesRight_14 rfl rfl ?_
        refine V_iconst (v := (nI 1)) dL_areHousesRight_15 (by decide) ?_
        refine Cv1_2 (d := 5) cv_L_72 dL_areHousesRight_16 (v_X7_houseOf hA h1 hn (j := i) (q := 1) hi8 (by decide) (v := nI 1) eg) (hp0 hA) rfl rfl (Nat.le_of_ble_eq_true rfl) ⟨Nat.le_refl _, Nat.le_refl _⟩ (by decide) ⟨Nat.le_of_ble_eq_true rfl, Nat.le_of_ble_eq_true rfl⟩ ?_
        refine V_istore_n (i := 3) dL_areHousesRight_19 rfl (by decide) ?_
        refine V_aload_n (i := 0) dL_areHousesRight_20 rfl rfl ?_
        refine V_iload_n (i := 2) dL_areHousesRight_21 rfl rfl ?_
        refine V_bipush (v := (nI 6)) dL_areHousesRight_22 (by decide) ?_
        refine Cv1_2 (d := 5) cv_L_72 dL_areHousesRight_24 (v_X7_houseOf hA h1 hn (j := i) (q := 6) hi8 (by decide) (v := nI 0) el) (hp0 hA) rfl rfl (Nat.le_of_ble_eq_true rfl) ⟨Nat.le_refl _, Nat.le_refl _⟩ (by decide) ⟨Nat.le_of_ble_eq_true rfl, Nat.le_of_ble_eq_true rfl⟩ ?_
        refine V_istore (i := 4) dL_areHousesRight_27 (by decide) ?_
        refine V_iload_n (i := 1) dL_areHousesRight_29 rfl rfl ?_
        refine V_if_eq (tgt := 137) dL_areHousesRight_30 (by decide) (fun h30 => by first | exact absurd h30 (by decide) | exact absurd (by decide) h30) (fun _ => ?_)
        refine V_aload_n (i := 0) dL_areHousesRight_33 rfl rfl ?_
        refine V_iload_n (i := 2) dL_areHousesRight_34 rfl rfl ?_
        refine V_iconst (v := (nI 3)) dL_areHousesRight_35 (by decide) ?_
        refine Cv1_2 (d := 5) cv_L_72 dL_areHousesRight_36 (v_X7_houseOf hA h1 hn (j := i) (q := 3) hi8 (by decide) (v := nI d) ed) (hp0 hA) rfl rfl (Nat.le_of_ble_eq_true rfl) ⟨Nat.le_refl _, Nat.le_refl _⟩ (by decide) ⟨Nat.le_of_ble_eq_true rfl, Nat.le_of_ble_eq_true rfl⟩ ?_
        refine V_if_lt (tgt := 137) dL_areHousesRight_39 (by decide) (fun h39 => by first | exact absurd h39 (nI_pos (by omega)) | exact absurd (nI_pos (by omega)) h39) (fun _ => ?_)
        refine V_aload_n (i := 0) dL_areHousesRight_42 rfl rfl ?_
        refine V_iload_n (i := 2) dL_areHousesRight_43 rfl rfl ?_
        refine V_iconst (v := (nI 3)) dL_areHousesRight_44 (by decide) ?_
        refine Cv1_2 (d := 5) cv_L_72 dL_areHousesRight_45 (v_X7_houseOf hA h1 hn (j := i) (q := 3) hi8 (by decide) (v := nI d) ed) (hp0 hA) rfl rfl (Nat.le_of_ble_eq_true rfl) ⟨Nat.le_refl _, Nat.le_refl _⟩ (by decide) ⟨Nat.le_of_ble_eq_true rfl, Nat.le_of_ble_eq_true rfl⟩ ?_
        refine V_bipush (v := (nI 20)) dL_areHousesRight_48 (by decide) ?_
        refine V_icmp_gt (tgt := 137) dL_areHousesRight_50 (by decide) (fun h50 => by first | exact absurd h50 (nI_nlt hd (by decide)) | exact absurd (nI_nlt hd (by decide)) h50) (fun _ => ?_)
        refine V_aload_n (i := 0) dL_areHousesRight_53 rfl rfl ?_
        refine V_iload_n (i := 2) dL_areHousesRight_54 rfl rfl ?_
        refine V_iconst (v := (nI 4)) dL_areHousesRight_55 (by decide) ?_
        refine Cv1_2 (d := 5) cv_L_72 dL_areHousesRight_56 (v_X7_houseOf hA h1 hn (j := i) (q := 4) hi8 (by decide) (v := nI a) ea) (hp0 hA) rfl rfl (Nat.le_of_ble_eq_true rfl) ⟨Nat.le_refl _, Nat.le_refl _⟩ (by decide) ⟨Nat.le_of_ble_eq_true rfl, Nat.le_of_ble_eq_true rfl⟩ ?_
        refine V_if_lt (tgt := 137) dL_areHousesRight_59 (by decide) (fun h59 => by first | exact absurd h59 (nI_pos (by omega)) | exact absurd (nI_pos (by omega)) h59) (fun _ => ?_)
        refine V_aload_n (i := 0) dL_areHousesRight_62 rfl rfl ?_
        refine V_iload_n (i := 2) dL_areHousesRight_63 rfl rfl ?_
        refine V_iconst (v := (nI 5)) dL_areHousesRight_64 (by decide) ?_
        refine Cv1_2 (d := 5) cv_L_72 dL_areHousesRight_65 (v_X7_houseOf hA h1 hn (j := i) (q := 5) hi8 (by decide) (v := nI f) ef) (hp0 hA) rfl rfl (Nat.le_of_ble_eq_true rfl) ⟨Nat.le_refl _, Nat.le_refl _⟩ (by decide) ⟨Nat.le_of_ble_eq_true rfl, Nat.le_of_ble_eq_true rfl⟩ ?_
        refine V_if_lt (tgt := 137) dL_areHousesRight_68 (by decide) (fun h68 => by first | exact absurd h68 (nI_pos (by omega)) | exact absurd (nI_pos (by omega)) h68) (fun _ => ?_)
        refine V_aload_n (i := 0) dL_areHousesRight_71 rfl rfl ?_
        refine V_iload_n (i := 2) dL_areHousesRight_72 rfl rfl ?_
        refine Cv1_1 (d := 5) cv_L_99 dL_areHousesRight_73 (v_X7_isQuiet hA h1 hn hi8 (v := nI 0) (by rw [el]; decide)) (hp0 hA) rfl rfl (Nat.le_of_ble_eq_true rfl) ⟨Nat.le_refl _, Nat.le_refl _⟩ (by decide) ⟨Nat.le_of_ble_eq_true rfl, Nat.le_of_ble_eq_true rfl⟩ ?_
        refine V_iload (i := 4) dL_areHousesRight_76 rfl ?_
        refine V_if_le (tgt := 85) dL_areHousesRight_78 (by decide) (fun _ => ?_) (fun h78 => by first | exact absurd (by decide) h78 | exact absurd h78 (by decide))
        refine V_iconst (v := (nI 0)) dL_areHousesRight_85 (by decide) ?_
        refine V_icmp_ne (tgt := 137) dL_areHousesRight_86 (by decide) (fun h86 => by first | exact absurd h86 (fun z => z rfl) | exact absurd (fun z => z rfl) h86) (fun _ => ?_)
        refine V_iload (i := 4) dL_areHousesRight_89 rfl ?_
        refine V_bipush (v := (nI 99)) dL_areHousesRight_91 (by decide) ?_
        refine V_icmp_eq (tgt := 122) dL_areHousesRight_93 (by decide) (fun h93 => by first | exact absurd h93 (by decide) | exact absurd (by decide) h93) (fun _ => ?_)
        refine V_iload_n (i := 3) dL_areHousesRight_96 rfl rfl ?_
        refine V_iconst (v := (nI 1)) dL_areHousesRight_97 (by decide) ?_
        refine V_icmp_ne (tgt := 112) dL_areHousesRight_98 (by decide) (fun h98 => by first | exact absurd h98 (by decide) | exact absurd (by decide) h98) (fun _ => ?_)
        refine V_iload (i := 4) dL_areHousesRight_101 rfl ?_
        refine V_if_lt (tgt := 112) dL_areHousesRight_103 (by decide) (fun h103 => by first | exact absurd h103 (by decide) | exact absurd (by decide) h103) (fun _ => ?_)
        refine V_iload (i := 4) dL_areHousesRight_106 rfl ?_
        refine V_iconst (v := (nI 2)) dL_areHousesRight_108 (by decide) ?_
        refine V_icmp_le (tgt := 122) dL_areHousesRight_109 (by decide) (fun _ => ?_) (fun h109 => by first | exact absurd (by decide) h109 | exact absurd h109 (by decide))
        refine V_iload_n (i := 3) dL_areHousesRight_122 rfl rfl ?_
        refine V_if_ne (tgt := 133) dL_areHousesRight_123 (by decide) (fun _ => ?_) (fun h123 => by first | exact absurd (by decide) h123 | exact absurd h123 (by decide))
        refine V_iconst (v := (nI 1)) dL_areHousesRight_133 (by decide) ?_
        refine V_goto (tgt := 138) dL_areHousesRight_134 (by decide) ?_
        refine V_istore_n (i := 1) dL_areHousesRight_138 rfl (by decide) ?_
        refine V_iinc (i := 2) dL_areHousesRight_139 rfl (inc1 _) (by decide) ?_
        refine V_goto (tgt := 4) dL_areHousesRight_142 (by decide) ?_
        exact V.fin [4, 1, 0] rfl rfl k9
      ·
        refine V_iload_n (i := 2) dL_areHousesRight_4 rfl rfl ?_
        refine V_aload_n (i := 0) dL_areHousesRight_5 rfl rfl ?_
        refine V_iconst (v := (nI 1)) dL_areHousesRight_6 (by decide) ?_
        refine Cv1_1 (d := 5) cv_L_38 dL_areHousesRight_7 (v_X7_account hA h1 hn (q := 1) (by decide) (v := nI nh) h1) (hp0 hA) rfl rfl (Nat.le_of_ble_eq_true rfl) ⟨Nat.le_refl _, Nat.le_refl _⟩ (by decide) ⟨Nat.le_of_ble_eq_true rfl, Nat.le_of_ble_eq_true rfl⟩ ?_
        refine V_icmp_ge (tgt := 145) dL_areHousesRight_10 (by decide) (fun h10 => by first | exact absurd h10 (nI_ge (by omega) (by omega)) | exact absurd (nI_ge (by omega) (by omega)) h10) (fun _ => ?_)
        refine V_aload_n (i := 0) dL_areHousesRight_13 rfl rfl ?_
        refine V_iload_n (i := 2) dL_areHousesRight_14 rfl rfl ?_
        refine V_iconst (v := (nI 1)) dL_areHousesRight_15 (by decide) ?_
        refine Cv1_2 (d := 5) cv_L_72 dL_areHousesRight_16 (v_X7_houseOf hA h1 hn (j := i) (q := 1) hi8 (by decide) (v := nI 1) eg) (hp0 hA) rfl rfl (Nat.le_of_ble_eq_true rfl) ⟨Nat.le_refl _, Nat.le_refl _⟩ (by decide) ⟨Nat.le_of_ble_eq_true rfl, Nat.le_of_ble_eq_true rfl⟩ ?_
        refine V_istore_n (i := 3) dL_areHousesRight_19 rfl (by decide) ?_
        refine V_aload_n (i := 0) dL_areHousesRight_20 rfl rfl ?_
        refine V_iload_n (i := 2) dL_areHousesRight_21 rfl rfl ?_
        refine V_bipush (v := (nI 6)) dL_areHousesRight_22 (by decide) ?_
        refine Cv1_2 (d := 5) cv_L_72 dL_areHousesRight_24 (v_X7_houseOf hA h1 hn (j := i) (q := 6) hi8 (by decide) (v := nI 1) el) (hp0 hA) rfl rfl (Nat.le_of_ble_eq_true rfl) ⟨Nat.le_refl _, Nat.le_refl _⟩ (by decide) ⟨Nat.le_of_ble_eq_true rfl, Nat.le_of_ble_eq_true rfl⟩ ?_
        refine V_istore (i := 4) dL_areHousesRight_27 (by decide) ?_
        refine V_iload_n (i := 1) dL_areHousesRight_29 rfl rfl ?_
        refine V_if_eq (tgt := 137) dL_areHousesRight_30 (by decide) (fun h30 => by first | exact absurd h30 (by decide) | exact absurd (by decide) h30) (fun _ => ?_)
        refine V_aload_n (i := 0) dL_areHousesRight_33 rfl rfl ?_
        refine V_iload_n (i := 2) dL_areHousesRight_34 rfl rfl ?_
        refine V_iconst (v := (nI 3)) dL_areHousesRight_35 (by decide) ?_
        refine Cv1_2 (d := 5) cv_L_72 dL_areHousesRight_36 (v_X7_houseOf hA h1 hn (j := i) (q := 3) hi8 (by decide) (v := nI d) ed) (hp0 hA) rfl rfl (Nat.le_of_ble_eq_true rfl) ⟨Nat.le_refl _, Nat.le_refl _⟩ (by decide) ⟨Nat.le_of_ble_eq_true rfl, Nat.le_of_ble_eq_true rfl⟩ ?_
        refine V_if_lt (tgt := 137) dL_areHousesRight_39 (by decide) (fun h39 => by first | exact absurd h39 (nI_pos (by omega)) | exact absurd (nI_pos (by omega)) h39) (fun _ => ?_)
        refine V_aload_n (i := 0) dL_areHousesRight_42 rfl rfl ?_
        refine V_iload_n (i := 2) dL_areHousesRight_43 rfl rfl ?_
        refine V_iconst (v := (nI 3)) dL_areHousesRight_44 (by decide) ?_
        refine Cv1_2 (d := 5) cv_L_72 dL_areHousesRight_45 (v_X7_houseOf hA h1 hn (j := i) (q := 3) hi8 (by decide) (v := nI d) ed) (hp0 hA) rfl rfl (Nat.le_of_ble_eq_true rfl) ⟨Nat.le_refl _, Nat.le_refl _⟩ (by decide) ⟨Nat.le_of_ble_eq_true rfl, Nat.le_of_ble_eq_true rfl⟩ ?_
        refine V_bipush (v := (nI 20)) dL_areHousesRight_48 (by decide) ?_
        refine V_icmp_gt (tgt := 137) dL_areHousesRight_50 (by decide) (fun h50 => by first | exact absurd h50 (nI_nlt hd (by decide)) | exact absurd (nI_nlt hd (by decide)) h50) (fun _ => ?_)
        refine V_aload_n (i := 0) dL_areHousesRight_53 rfl rfl ?_
        refine V_iload_n (i := 2) dL_areHousesRight_54 rfl rfl ?_
        refine V_iconst (v := (nI 4)) dL_areHousesRight_55 (by decide) ?_
        refine Cv1_2 (d := 5) cv_L_72 dL_areHousesRight_56 (v_X7_houseOf hA h1 hn (j := i) (q := 4) hi8 (by decide) (v := nI a) ea) (hp0 hA) rfl rfl (Nat.le_of_ble_eq_true rfl) ⟨Nat.le_refl _, Nat.le_refl _⟩ (by decide) ⟨Nat.le_of_ble_eq_true rfl, Nat.le_of_ble_eq_true rfl⟩ ?_
        refine V_if_lt (tgt := 137) dL_areHousesRight_59 (by decide) (fun h59 => by first | exact absurd h59 (nI_pos (by omega)) | exact absurd (nI_pos (by omega)) h59) (fun _ => ?_)
        refine V_aload_n (i := 0) dL_areHousesRight_62 rfl rfl ?_
        refine V_iload_n (i := 2) dL_areHousesRight_63 rfl rfl ?_
        refine V_iconst (v := (nI 5)) dL_areHousesRight_64 (by decide) ?_
        refine Cv1_2 (d := 5) cv_L_72 dL_areHousesRight_65 (v_X7_houseOf hA h1 hn (j := i) (q := 5) hi8 (by decide) (v := nI f) ef) (hp0 hA) rfl rfl (Nat.le_of_ble_eq_true rfl) ⟨Nat.le_refl _, Nat.le_refl _⟩ (by decide) ⟨Nat.le_of_ble_eq_true rfl, Nat.le_of_ble_eq_true rfl⟩ ?_
        refine V_if_lt (tgt := 137) dL_areHousesRight_68 (by decide) (fun h68 => by first | exact absurd h68 (nI_pos (by omega)) | exact absurd (nI_pos (by omega)) h68) (fun _ => ?_)
        refine V_aload_n (i := 0) dL_areHousesRight_71 rfl rfl ?_
        refine V_iload_n (i := 2) dL_areHousesRight_72 rfl rfl ?_
        refine Cv1_1 (d := 5) cv_L_99 dL_areHousesRight_73 (v_X7_isQuiet hA h1 hn hi8 (v := nI 1) (by rw [el]; decide)) (hp0 hA) rfl rfl (Nat.le_of_ble_eq_true rfl) ⟨Nat.le_refl _, Nat.le_refl _⟩ (by decide) ⟨Nat.le_of_ble_eq_true rfl, Nat.le_of_ble_eq_true rfl⟩ ?_
        refine V_iload (i := 4) dL_areHousesRight_76 rfl ?_
        refine V_if_le (tgt := 85) dL_areHousesRight_78 (by decide) (fun h78 => by first | exact absurd h78 (by decide) | exact absurd (by decide) h78) (fun _ => ?_)
        refine V_iconst (v := (nI 1)) dL_areHousesRight_81 (by decide) ?_
        refine V_goto (tgt := 86) dL_areHousesRight_82 (by decide) ?_
        refine V_icmp_ne (tgt := 137) dL_areHousesRight_86 (by decide) (fun h86 => by first | exact absurd h86 (fun z => z rfl) | exact absurd (fun z => z rfl) h86) (fun _ => ?_)
        refine V_iload (i := 4) dL_areHousesRight_89 rfl ?_
        refine V_bipush (v := (nI 99)) dL_areHousesRight_91 (by decide) ?_
        refine V_icmp_eq (tgt := 122) dL_areHousesRight_93 (by decide) (fun h93 => by first | exact absurd h93 (by decide) | exact absurd (by decide) h93) (fun _ => ?_)
        refine V_iload_n (i := 3) dL_areHousesRight_96 rfl rfl ?_
        refine V_iconst (v := (nI 1)) dL_areHousesRight_97 (by decide) ?_
        refine V_icmp_ne (tgt := 112) dL_areHousesRight_98 (by decide) (fun h98 => by first | exact absurd h98 (by decide) | exact absurd (by decide) h98) (fun _ => ?_)
        refine V_iload (i := 4) dL_areHousesRight_101 rfl ?_
        refine V_if_lt (tgt := 112) dL_areHousesRight_103 (by decide) (fun h103 => by first | exact absurd h103 (by decide) | exact absurd (by decide) h103) (fun _ => ?_)
        refine V_iload (i := 4) dL_areHousesRight_106 rfl ?_
        refine V_iconst (v := (nI 2)) dL_areHousesRight_108 (by decide) ?_
        refine V_icmp_le (tgt := 122) dL_areHousesRight_109 (by decide) (fun _ => ?_) (fun h109 => by first | exact absurd (by decide) h109 | exact absurd h109 (by decide))
        refine V_iload_n (i := 3) dL_areHousesRight_122 rfl rfl ?_
        refine V_if_ne (tgt := 133) dL_areHousesRight_123 (by decide) (fun _ => ?_) (fun h123 => by first | exact absurd (by decide) h123 | exact absurd h123 (by decide))
        refine V_iconst (v := (nI 1)) dL_areHousesRight_133 (by decide) ?_
        refine V_goto (tgt := 138) dL_areHousesRight_134 (by decide) ?_
        refine V_istore_n (i := 1) dL_areHousesRight_138 rfl (by decide) ?_
        refine V_iinc (i := 2) dL_areHousesRight_139 rfl (inc1 _) (by decide) ?_
        refine V_goto (tgt := 4) dL_areHousesRight_142 (by decide) ?_
        exact V.fin [4, 1, 0] rfl rfl k9
      ·
        refine V_iload_n (i := 2) dL_areHousesRight_4 rfl rfl ?_
        refine V_aload_n (i := 0) dL_areHousesRight_5 rfl rfl ?_
        refine V_iconst (v := (nI 1)) dL_areHousesRight_6 (by decide) ?_
        refine Cv1_1 (d := 5) cv_L_38 dL_areHousesRight_7 (v_X7_account hA h1 hn (q := 1) (by decide) (v := nI nh) h1) (hp0 hA) rfl rfl (Nat.le_of_ble_eq_true rfl) ⟨Nat.le_refl _, Nat.le_refl _⟩ (by decide) ⟨Nat.le_of_ble_eq_true rfl, Nat.le_of_ble_eq_true rfl⟩ ?_
        refine V_icmp_ge (tgt := 145) dL_areHousesRight_10 (by decide) (fun h10 => by first | exact absurd h10 (nI_ge (by omega) (by omega)) | exact absurd (nI_ge (by omega) (by omega)) h10) (fun _ => ?_)
        refine V_aload_n (i := 0) dL_areHousesRight_13 rfl rfl ?_
        refine V_iload_n (i := 2) dL_areHousesRight_14 rfl rfl ?_
        refine V_iconst (v := (nI 1)) dL_areHousesRight_15 (by decide) ?_
        refine Cv1_2 (d := 5) cv_L_72 dL_areHousesRight_16 (v_X7_houseOf hA h1 hn (j := i) (q := 1) hi8 (by decide) (v := nI 1) eg) (hp0 hA) rfl rfl (Nat.le_of_ble_eq_true rfl) ⟨Nat.le_refl _, Nat.le_refl _⟩ (by decide) ⟨Nat.le_of_ble_eq_true rfl, Nat.le_of_ble_eq_true rfl⟩ ?_
        refine V_istore_n (i := 3) dL_areHousesRight_19 rfl (by decide) ?_
        refine V_aload_n (i := 0) dL_areHousesRight_20 rfl rfl ?_
        refine V_iload_n (i := 2) dL_areHousesRight_21 rfl rfl ?_
        refine V_bipush (v := (nI 6)) dL_areHousesRight_22 (by decide) ?_
        refine Cv1_2 (d := 5) cv_L_72 dL_areHousesRight_24 (v_X7_houseOf hA h1 hn (j := i) (q := 6) hi8 (by decide) (v := nI 2) el) (hp0 hA) rfl rfl (Nat.le_of_ble_eq_true rfl) ⟨Nat.le_refl _, Nat.le_refl _⟩ (by decide) ⟨Nat.le_of_ble_eq_true rfl, Nat.le_of_ble_eq_true rfl⟩ ?_
        refine V_istore (i := 4) dL_areHousesRight_27 (by decide) ?_
        refine V_iload_n (i := 1) dL_areHousesRight_29 rfl rfl ?_
        refine V_if_eq (tgt := 137) dL_areHousesRight_30 (by decide) (fun h30 => by first | exact absurd h30 (by decide) | exact absurd (by decide) h30) (fun _ => ?_)
        refine V_aload_n (i := 0) dL_areHousesRight_33 rfl rfl ?_
        refine V_iload_n (i := 2) dL_areHousesRight_34 rfl rfl ?_
        refine V_iconst (v := (nI 3)) dL_areHousesRight_35 (by decide) ?_
        refine Cv1_2 (d := 5) cv_L_72 dL_areHousesRight_36 (v_X7_houseOf hA h1 hn (j := i) (q := 3) hi8 (by decide) (v := nI d) ed) (hp0 hA) rfl rfl (Nat.le_of_ble_eq_true rfl) ⟨Nat.le_refl _, Nat.le_refl _⟩ (by decide) ⟨Nat.le_of_ble_eq_true rfl, Nat.le_of_ble_eq_true rfl⟩ ?_
        refine V_if_lt (tgt := 137) dL_areHousesRight_39 (by decide) (fun h39 => by first | exact absurd h39 (nI_pos (by omega)) | exact absurd (nI_pos (by omega)) h39) (fun _ => ?_)
        refine V_aload_n (i := 0) dL_areHousesRight_42 rfl rfl ?_
        refine V_iload_n (i := 2) dL_areHousesRight_43 rfl rfl ?_
        refine V_iconst (v := (nI 3)) dL_areHousesRight_44 (by decide) ?_
        refine Cv1_2 (d := 5) cv_L_72 dL_areHousesRight_45 (v_X7_houseOf hA h1 hn (j := i) (q := 3) hi8 (by decide) (v := nI d) ed) (hp0 hA) rfl rfl (Nat.le_of_ble_eq_true rfl) ⟨Nat.le_refl _, Nat.le_refl _⟩ (by decide) ⟨Nat.le_of_ble_eq_true rfl, Nat.le_of_ble_eq_true rfl⟩ ?_
        refine V_bipush (v := (nI 20)) dL_areHousesRight_48 (by decide) ?_
        refine V_icmp_gt (tgt := 137) dL_areHousesRight_50 (by decide) (fun h50 => by first | exact absurd h50 (nI_nlt hd (by decide)) | exact absurd (nI_nlt hd (by decide)) h50) (fun _ => ?_)
        refine V_aload_n (i := 0) dL_areHousesRight_53 rfl rfl ?_
        refine V_iload_n (i := 2) dL_areHousesRight_54 rfl rfl ?_
        refine V_iconst (v := (nI 4)) dL_areHousesRight_55 (by decide) ?_
        refine Cv1_2 (d := 5) cv_L_72 dL_areHousesRight_56 (v_X7_houseOf hA h1 hn (j := i) (q := 4) hi8 (by decide) (v := nI a) ea) (hp0 hA) rfl rfl (Nat.le_of_ble_eq_true rfl) ⟨Nat.le_refl _, Nat.le_refl _⟩ (by decide) ⟨Nat.le_of_ble_eq_true rfl, Nat.le_of_ble_eq_true rfl⟩ ?_
        refine V_if_lt (tgt := 137) dL_areHousesRight_59 (by decide) (fun h59 => by first | exact absurd h59 (nI_pos (by omega)) | exact absurd (nI_pos (by omega)) h59) (fun _ => ?_)
        refine V_aload_n (i := 0) dL_areHousesRight_62 rfl rfl ?_
        refine V_iload_n (i := 2) dL_areHousesRight_63 rfl rfl ?_
        refine V_iconst (v := (nI 5)) dL_areHousesRight_64 (by decide) ?_
        refine Cv1_2 (d := 5) cv_L_72 dL_areHousesRight_65 (v_X7_houseOf hA h1 hn (j := i) (q := 5) hi8 (by decide) (v := nI f) ef) (hp0 hA) rfl rfl (Nat.le_of_ble_eq_true rfl) ⟨Nat.le_refl _, Nat.le_refl _⟩ (by decide) ⟨Nat.le_of_ble_eq_true rfl, Nat.le_of_ble_eq_true rfl⟩ ?_
        refine V_if_lt (tgt := 137) dL_areHousesRight_68 (by decide) (fun h68 => by first | exact absurd h68 (nI_pos (by omega)) | exact absurd (nI_pos (by omega)) h68) (fun _ => ?_)
        refine V_aload_n (i := 0) dL_areHousesRight_71 rfl rfl ?_
        refine V_iload_n (i := 2) dL_areHousesRight_72 rfl rfl ?_
        refine Cv1_1 (d := 5) cv_L_99 dL_areHousesRight_73 (v_X7_isQuiet hA h1 hn hi8 (v := nI 1) (by rw [el]; decide)) (hp0 hA) rfl rfl (Nat.le_of_ble_eq_true rfl) ⟨Nat.le_refl _, Nat.le_refl _⟩ (by decide) ⟨Nat.le_of_ble_eq_true rfl, Nat.le_of_ble_eq_true rfl⟩ ?_
        refine V_iload (i := 4) dL_areHousesRight_76 rfl ?_
        refine V_if_le (tgt := 85) dL_areHousesRight_78 (by decide) (fun h78 => by first | exact absurd h78 (by decide) | exact absurd (by decide) h78) (fun _ => ?_)
        refine V_iconst (v := (nI 1)) dL_areHousesRight_81 (by decide) ?_
        refine V_goto (tgt := 86) dL_areHousesRight_82 (by decide) ?_
        refine V_icmp_ne (tgt := 137) dL_areHousesRight_86 (by decide) (fun h86 => by first | exact absurd h86 (fun z => z rfl) | exact absurd (fun z => z rfl) h86) (fun _ => ?_)
        refine V_iload (i := 4) dL_areHousesRight_89 rfl ?_
        refine V_bipush (v := (nI 99)) dL_areHousesRight_91 (by decide) ?_
        refine V_icmp_eq (tgt := 122) dL_areHousesRight_93 (by decide) (fun h93 => by first | exact absurd h93 (by decide) | exact absurd (by decide) h93) (fun _ => ?_)
        refine V_iload_n (i := 3) dL_areHousesRight_96 rfl rfl ?_
        refine V_iconst (v := (nI 1)) dL_areHousesRight_97 (by decide) ?_
        refine V_icmp_ne (tgt := 112) dL_areHousesRight_98 (by decide) (fun h98 => by first | exact absurd h98 (by decide) | exact absurd (by decide) h98) (fun _ => ?_)
        refine V_iload (i := 4) dL_areHousesRight_101 rfl ?_
        refine V_if_lt (tgt := 112) dL_areHousesRight_103 (by decide) (fun h103 => by first | exact absurd h103 (by decide) | exact absurd (by decide) h103) (fun _ => ?_)
        refine V_iload (i := 4) dL_areHousesRight_106 rfl ?_
        refine V_iconst (v := (nI 2)) dL_areHousesRight_108 (by decide) ?_
        refine V_icmp_le (tgt := 122) dL_areHousesRight_109 (by decide) (fun _ => ?_) (fun h109 => by first | exact absurd (by decide) h109 | exact absurd h109 (by decide))
        refine V_iload_n (i := 3) dL_areHousesRight_122 rfl rfl ?_
        refine V_if_ne (tgt := 133) dL_areHousesRight_123 (by decide) (fun _ => ?_) (fun h123 => by first | exact absurd (by decide) h123 | exact absurd h123 (by decide))
        refine V_iconst (v := (nI 1)) dL_areHousesRight_133 (by decide) ?_
        refine V_goto (tgt := 138) dL_areHousesRight_134 (by decide) ?_
        refine V_istore_n (i := 1) dL_areHousesRight_138 rfl (by decide) ?_
        refine V_iinc (i := 2) dL_areHousesRight_139 rfl (inc1 _) (by decide) ?_
        refine V_goto (tgt := 4) dL_areHousesRight_142 (by decide) ?_
        exact V.fin [4, 1, 0] rfl rfl k9
  refine V_iconst (v := (nI 1)) dL_areHousesRight_0 (by decide) ?_
  refine V_istore_n (i := 1) dL_areHousesRight_1 rfl (by decide) ?_
  refine V_iconst (v := (nI 0)) dL_areHousesRight_2 (by decide) ?_
  refine V_istore_n (i := 2) dL_areHousesRight_3 rfl (by decide) ?_
  exact V.fin [2, 1, 0] rfl rfl (lh nh 0 (by omega))

