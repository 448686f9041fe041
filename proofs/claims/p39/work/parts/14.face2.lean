/-! the face's questions -/
abbrev KT : Type := Nat × Int32
theorem kok {A : AT} {σ : Sg} {K : KT} {v : Int32} (e : K = (0, v)) : K.1 = 0 ∧ some (Value.int v) = some (.int K.2) ∧ HP A σ = HP A σ := by
  subst e
  exact ⟨rfl, rfl, rfl⟩
theorem kok2 {A : AT} {σ σ' : Sg} {K : KT} {v : Int32} (e : K = (0, v)) (h : σ = σ') : K.1 = 0 ∧ some (Value.int v) = some (.int K.2) ∧ HP A σ = HP A σ' := by
  subst e
  subst h
  exact ⟨rfl, rfl, rfl⟩
theorem kx1 {A : AT} {σ : Sg} {K : KT} {x1 x2 : String} (e : K = (1, 0)) : ¬ K.1 = 0 ∧ x1 = (if K.1 = 1 then x1 else x2) ∧ HP A σ = HP A σ := by
  subst e
  exact ⟨by decide, rfl, rfl⟩
theorem kx2 {A : AT} {σ : Sg} {K : KT} {x1 x2 : String} (e : K = (2, 0)) : ¬ K.1 = 0 ∧ x2 = (if K.1 = 1 then x1 else x2) ∧ HP A σ = HP A σ := by
  subst e
  exact ⟨by decide, rfl, rfl⟩
def K_houseOf (w : Nat → Int32) (nh : Nat) (x q : Int32) : KT := if ob x 0 (nI nh - 1) = true then (1, 0) else if ob q 0 7 = true then (2, 0) else (0, S_hnum w x.toNatClampNeg q.toNatClampNeg)
def K_carrierOf (w : Nat → Int32) (nc : Nat) (x q : Int32) : KT := if ob x 0 (nI nc - 1) = true then (1, 0) else if ob q 0 3 = true then (2, 0) else (0, w (kx x.toNatClampNeg q.toNatClampNeg))
def K_shoeOf (w : Nat → Int32) (x : Int32) : KT := if ob x 0 3 = true then (1, 0) else (0, w (10 + x.toNatClampNeg))
def K_tires (w : Nat → Int32) (nh nc : Nat) (x y : Int32) : KT := if ob x 0 (nI nc - 1) = true then (1, 0) else if ob y 0 (nI nh - 1) = true then (1, 0) else (0, S_tired w x.toNatClampNeg y.toNatClampNeg)
def K_canCarry (w : Nat → Int32) (nh nc : Nat) (x y : Int32) : KT := if ob x 0 (nI nc - 1) = true then (1, 0) else if ob y 0 (nI nh - 1) = true then (1, 0) else (0, S_can w x.toNatClampNeg y.toNatClampNeg)
def K_mayCarry (w : Nat → Int32) (nc pl : Nat) (x : Int32) : KT := if ob x 0 (nI nc - 1) = true then (1, 0) else (0, S_may w pl x.toNatClampNeg)
def K_best (w : Nat → Int32) (nh nc : Nat) (x : Int32) : KT := if ob x 0 (nI nh - 1) = true then (1, 0) else if (S_st w x.toNatClampNeg nc).1 = -1 then (2, 0) else (0, (S_st w x.toNatClampNeg nc).1)
def S_reach (w : Nat → Int32) : Int32 := if S_shoes w < 3 then w 3 else w 1
def K_quiet (w : Nat → Int32) (nh : Nat) (x : Int32) : KT := if ob x 0 (nI nh - 1) = true then (1, 0) else (0, bi (decide (0 < S_lets w x.toNatClampNeg)))
def K_ranked (w : Nat → Int32) (nh : Nat) (x : Int32) : KT := if S_rk w nh x nh 0 = -1 then (1, 0) else (0, S_rk w nh x nh 0)
def K_append (tl : Nat) : KT := if 60 ≤ tl then (1, 0) else (0, nI (tl + 1))
def K_reason (a b c x : Int32) : KT := if ob x 0 2 = true then (1, 0) else if a = 0 then (2, 0) else (0, if x = 0 then a else if x = 1 then b else c)
def K_account (w : Nat → Int32) (nh : Nat) (a b x : Int32) : KT := if ob x 0 15 = true then (1, 0) else if x = 14 then (0, a) else if x = 15 then (0, b) else (0, S_num w nh x.toNatClampNeg)
def K_undo (cn : Nat) : KT := if cn = 0 then (1, 0) else (0, nI (cn - 1))
def K_restore (f d : Int32) : KT := if f = 0 then (1, 0) else (0, d)

set_option maxHeartbeats 4000000 in
set_option maxRecDepth 100000 in
theorem t_X7_houseOf {D : va_G} {s0 : State} {l : Launch} {B : Nat} {A : AT} {σ : Sg} (hA : AOK B A) (hl : l.stackTraces = false) {nh : Nat} (h1 : σ.1 5 0 1 = nI nh) (hn : nh ≤ 8) {x q : Int32} : Tri D s0 l yX7_houseOf cX7_houseOf 4 ((some .int)) 2 1 6 [.ref (A 0 0 0), .int x, .int q] (HP A σ) (fun r G' => (K_houseOf (σ.1 5 0) nh x q).1 = 0 ∧ r = some (.int (K_houseOf (σ.1 5 0) nh x q).2) ∧ G' = HP A σ) (fun E G' => ¬ (K_houseOf (σ.1 5 0) nh x q).1 = 0 ∧ E = (if (K_houseOf (σ.1 5 0) nh x q).1 = 1 then "java/lang/IndexOutOfBoundsException" else "java/lang/IllegalArgumentException") ∧ G' = HP A σ) := by
  refine Tri.ofV (own := RX7) (mn := "houseOf") (by decide +kernel) rfl rfl (Nat.le_of_ble_eq_true rfl) ?_
  by_cases ho : ob x 0 (nI nh - 1) = true
  ·
    refine V_aload_n (i := 0) dX7_houseOf_0 rfl rfl ?_
    refine V_getf fl_X7_20 dX7_houseOf_1 (hp0 hA) rfl ?_
    refine V_iload_n (i := 1) dX7_houseOf_4 rfl rfl ?_
    refine Cv1_1 (d := 2) cv_X7_105 dX7_houseOf_5 (t_X5_houseAt_n hA (by decide) h1 hn ho) (hp5 hA (by omega)) rfl rfl (Nat.le_of_ble_eq_true rfl) ⟨Nat.le_refl _, Nat.le_refl _⟩ (by decide) ⟨Nat.le_of_ble_eq_true rfl, Nat.le_of_ble_eq_true rfl⟩ ?_
    refine V_astore_nN (i := 3) dX7_houseOf_8 rfl (by decide) ?_
    refine V_aload_nN (i := 3) dX7_houseOf_9 rfl rfl ?_
    refine V_ifnonnullN dX7_houseOf_10 ?_
    refine V_throwS th_109 sr_111 hl dX7_houseOf_13 dX7_houseOf_16 dX7_houseOf_17 dX7_houseOf_19 dX7_houseOf_22 (Nat.le_of_ble_eq_true rfl) (Nat.le_of_ble_eq_true rfl) (Nat.le_of_ble_eq_true rfl) (Nat.le_of_ble_eq_true rfl) ?_
    exact kx1 (by simp [K_houseOf, *])
  · obtain ⟨j, hj, rfl⟩ := ob_ex (by omega) (Bool.eq_false_iff.mpr ho)
    have hcj := nI_clamp (n := j) (by omega)
    refine V_aload_n (i := 0) dX7_houseOf_0 rfl rfl ?_
    refine V_getf fl_X7_20 dX7_houseOf_1 (hp0 hA) rfl ?_
    refine V_iload_n (i := 1) dX7_houseOf_4 rfl rfl ?_
    refine Cv1_1 (d := 2) cv_X7_105 dX7_houseOf_5 (t_X5_houseAt_s hA (by decide) h1 hn hj) (hp5 hA (by omega)) rfl rfl (Nat.le_of_ble_eq_true rfl) ⟨Nat.le_refl _, Nat.le_refl _⟩ (by decide) ⟨Nat.le_of_ble_eq_true rfl, Nat.le_of_ble_eq_true rfl⟩ ?_
    refine V_astore_n (i := 3) dX7_houseOf_8 rfl (by decide) ?_
    refine V_aload_n (i := 3) dX7_houseOf_9 rfl rfl ?_
    refine V_ifnonnull (tgt := 23) dX7_houseOf_10 (by decide) ?_
    refine V_iload_n (i := 2) dX7_houseOf_23 rfl rfl ?_
    refine V_iconst (v := 0) dX7_houseOf_24 (by decide) ?_
    refine V_bipush (v := 7) dX7_houseOf_25 (by decide) ?_
    refine Cs1_3 (d := 2) cs_X7_116 dX7_houseOf_27 (t_X7_isOutside hA) (Nat.le_of_ble_eq_true rfl) ⟨Nat.le_refl _, Nat.le_refl _⟩ (by decide) ⟨Nat.le_of_ble_eq_true rfl, Nat.le_of_ble_eq_true rfl⟩ ?_
    refine V_if_eq (tgt := 43) dX7_houseOf_30 (by decide) (fun h30 => ?_) (fun h30 => ?_)
    · replace h30 := bi_0.mp h30
      obtain ⟨m, -, hm7, rfl⟩ := ob_ex2 (a := 0) (b := 7) (by decide) (by decide) h30
      have hcm := nI_clamp (n := m) (by omega)
      refine V_aload_n (i := 3) dX7_houseOf_43 rfl rfl ?_
      refine V_iload_n (i := 2) dX7_houseOf_44 rfl rfl ?_
      refine Cv1_1 (d := 2) cv_X7_125 dX7_houseOf_45 (t_X3_number hA (by decide) (by omega) (by omega)) (hp9 hA (by omega) (by omega)) rfl rfl (Nat.le_of_ble_eq_true rfl) ⟨Nat.le_refl _, Nat.le_refl _⟩ (by decide) ⟨Nat.le_of_ble_eq_true rfl, Nat.le_of_ble_eq_true rfl⟩ ?_
      refine V_iret dX7_houseOf_48 rfl (Nat.le_of_ble_eq_true rfl) (Nat.le_of_ble_eq_true rfl) ?_
      refine kok ?_
      first
        | (simp [K_houseOf, *]; done)
        | (simp [K_houseOf, *, show ob 1 0 2 = false from by decide, show ob 0 0 2 = false from by decide, show ob 14 0 15 = false from by decide, show ob 15 0 15 = false from by decide]; done)
    · replace h30 := bi_1.mp h30
      refine V_throwS th_120 sr_122 hl dX7_houseOf_33 dX7_houseOf_36 dX7_houseOf_37 dX7_houseOf_39 dX7_houseOf_42 (Nat.le_of_ble_eq_true rfl) (Nat.le_of_ble_eq_true rfl) (Nat.le_of_ble_eq_true rfl) (Nat.le_of_ble_eq_true rfl) ?_
      exact kx2 (by simp [K_houseOf, *])

set_option maxHeartbeats 4000000 in
set_option maxRecDepth 100000 in
theorem t_X7_carrierOf {D : va_G} {s0 : State} {l : Launch} {B : Nat} {A : AT} {σ : Sg} (hA : AOK B A) (hl : l.stackTraces = false) {nc : Nat} (h2 : σ.1 5 0 2 = nI nc) (hm : nc ≤ 4) {x q : Int32} : Tri D s0 l yX7_carrierOf cX7_carrierOf 4 ((some .int)) 2 1 6 [.ref (A 0 0 0), .int x, .int q] (HP A σ) (fun r G' => (K_carrierOf (σ.1 5 0) nc x q).1 = 0 ∧ r = some (.int (K_carrierOf (σ.1 5 0) nc x q).2) ∧ G' = HP A σ) (fun E G' => ¬ (K_carrierOf (σ.1 5 0) nc x q).1 = 0 ∧ E = (if (K_carrierOf (σ.1 5 0) nc x q).1 = 1 then "java/lang/IndexOutOfBoundsException" else "java/lang/IllegalArgumentException") ∧ G' = HP A σ) := by
  refine Tri.ofV (own := RX7) (mn := "carrierOf") (by decide +kernel) rfl rfl (Nat.le_of_ble_eq_true rfl) ?_
  by_cases ho : ob x 0 (nI nc - 1) = true
  ·
    refine V_aload_n (i := 0) dX7_carrierOf_0 rfl rfl ?_
    refine V_getf fl_X7_20 dX7_carrierOf_1 (hp0 hA) rfl ?_
    refine V_iload_n (i := 1) dX7_carrierOf_4 rfl rfl ?_
    refine Cv1_1 (d := 2) cv_X7_130 dX7_carrierOf_5 (t_X5_carrierAt_n hA (by decide) h2 hm ho) (hp5 hA (by omega)) rfl rfl (Nat.le_of_ble_eq_true rfl) ⟨Nat.le_refl _, Nat.le_refl _⟩ (by decide) ⟨Nat.le_of_ble_eq_true rfl, Nat.le_of_ble_eq_true rfl⟩ ?_
    refine V_astore_nN (i := 3) dX7_carrierOf_8 rfl (by decide) ?_
    refine V_aload_nN (i := 3) dX7_carrierOf_9 rfl rfl ?_
    refine V_ifnonnullN dX7_carrierOf_10 ?_
    refine V_throwS th_109 sr_134 hl dX7_carrierOf_13 dX7_carrierOf_16 dX7_carrierOf_17 dX7_carrierOf_19 dX7_carrierOf_22 (Nat.le_of_ble_eq_true rfl) (Nat.le_of_ble_eq_true rfl) (Nat.le_of_ble_eq_true rfl) (Nat.le_of_ble_eq_true rfl) ?_
    exact kx1 (by simp [K_carrierOf, *])
  · obtain ⟨j, hj, rfl⟩ := ob_ex (by omega) (Bool.eq_false_iff.mpr ho)
    have hcj := nI_clamp (n := j) (by omega)
    refine V_aload_n (i := 0) dX7_carrierOf_0 rfl rfl ?_
    refine V_getf fl_X7_20 dX7_carrierOf_1 (hp0 hA) rfl ?_
    refine V_iload_n (i := 1) dX7_carrierOf_4 rfl rfl ?_
    refine Cv1_1 (d := 2) cv_X7_130 dX7_carrierOf_5 (t_X5_carrierAt_s hA (by decide) h2 hm hj) (hp5 hA (by omega)) rfl rfl (Nat.le_of_ble_eq_true rfl) ⟨Nat.le_refl _, Nat.le_refl _⟩ (by decide) ⟨Nat.le_of_ble_eq_true rfl, Nat.le_of_ble_eq_true rfl⟩ ?_
    refine V_astore_n (i := 3) dX7_carrierOf_8 rfl (by decide) ?_
    refine V_aload_n (i := 3) dX7_carrierOf_9 rfl rfl ?_
    refine V_ifnonnull (tgt := 23) dX7_carrierOf_10 (by decide) ?_
    refine V_iload_n (i := 2) dX7_carrierOf_23 rfl rfl ?_
    refine V_iconst (v := 0) dX7_carrierOf_24 (by decide) ?_
    refine V_iconst (v := 3) dX7_carrierOf_25 (by decide) ?_
    refine Cs1_3 (d := 2) cs_X7_116 dX7_carrierOf_26 (t_X7_isOutside hA) (Nat.le_of_ble_eq_true rfl) ⟨Nat.le_refl _, Nat.le_refl _⟩ (by decide) ⟨Nat.le_of_ble_eq_true rfl, Nat.le_of_ble_eq_true rfl⟩ ?_
    refine V_if_eq (tgt := 42) dX7_carrierOf_29 (by decide) (fun h29 => ?_) (fun h29 => ?_)
    · replace h29 := bi_0.mp h29
      obtain ⟨m, -, hm7, rfl⟩ := ob_ex2 (a := 0) (b := 3) (by decide) (by decide) h29
      have hcm := nI_clamp (n := m) (by omega)
      refine V_aload_n (i := 3) dX7_carrierOf_42 rfl rfl ?_
      refine V_iload_n (i := 2) dX7_carrierOf_43 rfl rfl ?_
      refine Cv1_1 (d := 2) cv_X7_138 dX7_carrierOf_44 (t_X0_number hA (by decide) (by omega) (by omega)) (hp10 hA (by omega) (by omega)) rfl rfl (Nat.le_of_ble_eq_true rfl) ⟨Nat.le_refl _, Nat.le_refl _⟩ (by decide) ⟨Nat.le_of_ble_eq_true rfl, Nat.le_of_ble_eq_true rfl⟩ ?_
      refine V_iret dX7_carrierOf_47 rfl (Nat.le_of_ble_eq_true rfl) (Nat.le_of_ble_eq_true rfl) ?_
      refine kok ?_
      first
        | (simp [K_carrierOf, *]; done)
        | (simp [K_carrierOf, *, show ob 1 0 2 = false from by decide, show ob 0 0 2 = false from by decide, show ob 14 0 15 = false from by decide, show ob 15 0 15 = false from by decide]; done)
    · replace h29 := bi_1.mp h29
      refine V_throwS th_120 sr_136 hl dX7_carrierOf_32 dX7_carrierOf_35 dX7_carrierOf_36 dX7_carrierOf_38 dX7_carrierOf_41 (Nat.le_of_ble_eq_true rfl) (Nat.le_of_ble_eq_true rfl) (Nat.le_of_ble_eq_true rfl) (Nat.le_of_ble_eq_true rfl) ?_
      exact kx2 (by simp [K_carrierOf, *])

set_option maxHeartbeats 4000000 in
set_option maxRecDepth 100000 in
theorem t_X7_shoeOf {D : va_G} {s0 : State} {l : Launch} {B : Nat} {A : AT} {σ : Sg} (hA : AOK B A) (hl : l.stackTraces = false) {x : Int32} : Tri D s0 l yX7_shoeOf cX7_shoeOf 2 ((some .int)) 1 1 6 [.ref (A 0 0 0), .int x] (HP A σ) (fun r G' => (K_shoeOf (σ.1 5 0) x).1 = 0 ∧ r = some (.int (K_shoeOf (σ.1 5 0) x).2) ∧ G' = HP A σ) (fun E G' => ¬ (K_shoeOf (σ.1 5 0) x).1 = 0 ∧ E = (if (K_shoeOf (σ.1 5 0) x).1 = 1 then "java/lang/IndexOutOfBoundsException" else "") ∧ G' = HP A σ) := by
  refine Tri.ofV (own := RX7) (mn := "shoeOf") (by decide +kernel) rfl rfl (Nat.le_of_ble_eq_true rfl) ?_
  refine V_iload_n (i := 1) dX7_shoeOf_0 rfl rfl ?_
  refine V_iconst (v := 0) dX7_shoeOf_1 (by decide) ?_
  refine V_iconst (v := 3) dX7_shoeOf_2 (by decide) ?_
  refine Cs1_3 (d := 1) cs_X7_116 dX7_shoeOf_3 (t_X7_isOutside hA) (Nat.le_of_ble_eq_true rfl) ⟨Nat.le_refl _, Nat.le_refl _⟩ (by decide) ⟨Nat.le_of_ble_eq_true rfl, Nat.le_of_ble_eq_true rfl⟩ ?_
  refine V_if_eq (tgt := 19) dX7_shoeOf_6 (by decide) (fun h6 => ?_) (fun h6 => ?_)
  · replace h6 := bi_0.mp h6
    obtain ⟨m, -, hm7, rfl⟩ := ob_ex2 (a := 0) (b := 3) (by decide) (by decide) h6
    have hcm := nI_clamp (n := m) (by omega)
    refine V_aload_n (i := 0) dX7_shoeOf_19 rfl rfl ?_
    refine V_getf fl_X7_20 dX7_shoeOf_20 (hp0 hA) rfl ?_
    refine V_getf fl_X7_143 dX7_shoeOf_23 (hp5 hA (by omega)) rfl ?_
    refine V_iload_n (i := 1) dX7_shoeOf_26 rfl rfl ?_
    refine V_iald9 dX7_shoeOf_27 (hp8 hA (by decide)) rfl (by omega) (by decide) (arn_at (by omega)) ?_
    refine V_iret dX7_shoeOf_28 rfl (Nat.le_of_ble_eq_true rfl) (Nat.le_of_ble_eq_true rfl) ?_
    refine kok ?_
    first
      | (simp [K_shoeOf, *]; done)
      | (simp [K_shoeOf, *, show ob 1 0 2 = false from by decide, show ob 0 0 2 = false from by decide, show ob 14 0 15 = false from by decide, show ob 15 0 15 = false from by decide]; done)
  · replace h6 := bi_1.mp h6
    refine V_throwS th_109 sr_141 hl dX7_shoeOf_9 dX7_shoeOf_12 dX7_shoeOf_13 dX7_shoeOf_15 dX7_shoeOf_18 (Nat.le_of_ble_eq_true rfl) (Nat.le_of_ble_eq_true rfl) (Nat.le_of_ble_eq_true rfl) (Nat.le_of_ble_eq_true rfl) ?_
    exact kx1 (by simp [K_shoeOf, *])





set_option maxHeartbeats 4000000 in
set_option maxRecDepth 100000 in
theorem t_X7_reach {D : va_G} {s0 : State} {l : Launch} {B : Nat} {A : AT} {σ : Sg} (hA : AOK B A) : Tri D s0 l yX7_reach cX7_reach 1 ((some .int)) 1 0 0 [.ref (A 0 0 0)] (HP A σ) (fun r G' => r = some (.int (S_reach (σ.1 5 0))) ∧ G' = HP A σ) noX := by
  refine Tri.ofV (own := RX7) (mn := "reach") (by decide +kernel) rfl rfl (Nat.le_of_ble_eq_true rfl) ?_
  refine V_aload_n (i := 0) dX7_reach_0 rfl rfl ?_
  refine V_getf fl_X7_20 dX7_reach_1 (hp0 hA) rfl ?_
  refine Cv1_0 (d := 1) cv_X7_168 dX7_reach_4 (t_X5_shoesLeft hA (by decide)) (hp5 hA (by omega)) rfl rfl (Nat.le_of_ble_eq_true rfl) ⟨Nat.le_refl _, Nat.le_refl _⟩ (by decide) ⟨Nat.le_of_ble_eq_true rfl, Nat.le_of_ble_eq_true rfl⟩ ?_
  refine V_iconst (v := 3) dX7_reach_7 (by decide) ?_
  refine V_icmp_ge (tgt := 21) dX7_reach_8 (by decide) (fun h8 => ?_) (fun h8 => ?_)
  · replace h8 := Int32.not_lt.mpr h8
    refine V_aload_n (i := 0) dX7_reach_21 rfl rfl ?_
    refine V_getf fl_X7_20 dX7_reach_22 (hp0 hA) rfl ?_
    refine V_getf fl_X7_174 dX7_reach_25 (hp5 hA (by omega)) rfl ?_
    refine V_iret dX7_reach_28 rfl (Nat.le_of_ble_eq_true rfl) (Nat.le_of_ble_eq_true rfl) ?_
    refine ⟨congrArg (fun z => some (Value.int z)) ?_, rfl⟩
    first | rw [S_reach, if_pos h8] | rw [S_reach, if_neg h8]
  · replace h8 := Int32.not_le.mp h8
    refine V_aload_n (i := 0) dX7_reach_11 rfl rfl ?_
    refine V_getf fl_X7_20 dX7_reach_12 (hp0 hA) rfl ?_
    refine V_getf fl_X7_171 dX7_reach_15 (hp5 hA (by omega)) rfl ?_
    refine V_goto (tgt := 28) dX7_reach_18 (by decide) ?_
    refine V_iret dX7_reach_28 rfl (Nat.le_of_ble_eq_true rfl) (Nat.le_of_ble_eq_true rfl) ?_
    refine ⟨congrArg (fun z => some (Value.int z)) ?_, rfl⟩
    first | rw [S_reach, if_pos h8] | rw [S_reach, if_neg h8]

set_option maxHeartbeats 4000000 in
set_option maxRecDepth 100000 in
theorem t_X7_isQuiet {D : va_G} {s0 : State} {l : Launch} {B : Nat} {A : AT} {σ : Sg} (hA : AOK B A) (hl : l.stackTraces = false) {nh : Nat} (h1 : σ.1 5 0 1 = nI nh) (hn : nh ≤ 8) {x : Int32} : Tri D s0 l yX7_isQuiet cX7_isQuiet 3 ((some .boolean)) 2 1 6 [.ref (A 0 0 0), .int x] (HP A σ) (fun r G' => (K_quiet (σ.1 5 0) nh x).1 = 0 ∧ r = some (.int (K_quiet (σ.1 5 0) nh x).2) ∧ G' = HP A σ) (fun E G' => ¬ (K_quiet (σ.1 5 0) nh x).1 = 0 ∧ E = (if (K_quiet (σ.1 5 0) nh x).1 = 1 then "java/lang/IndexOutOfBoundsException" else "") ∧ G' = HP A σ) := by
  refine Tri.ofV (own := RX7) (mn := "isQuiet") (by decide +kernel) rfl rfl (Nat.le_of_ble_eq_true rfl) ?_
  by_cases ho : ob x 0 (nI nh - 1) = true
  ·
    refine V_aload_n (i := 0) dX7_isQuiet_0 rfl rfl ?_
    refine V_getf fl_X7_20 dX7_isQuiet_1 (hp0 hA) rfl ?_
    refine V_iload_n (i := 1) dX7_isQuiet_4 rfl rfl ?_
    refine Cv1_1 (d := 2) cv_X7_105 dX7_isQuiet_5 (t_X5_houseAt_n hA (by decide) h1 hn ho) (hp5 hA (by omega)) rfl rfl (Nat.le_of_ble_eq_true rfl) ⟨Nat.le_refl _, Nat.le_refl _⟩ (by decide) ⟨Nat.le_of_ble_eq_true rfl, Nat.le_of_ble_eq_true rfl⟩ ?_
    refine V_astore_nN (i := 2) dX7_isQuiet_8 rfl (by decide) ?_
    refine V_aload_nN (i := 2) dX7_isQuiet_9 rfl rfl ?_
    refine V_ifnonnullN dX7_isQuiet_10 ?_
    refine V_throwS th_109 sr_111 hl dX7_isQuiet_13 dX7_isQuiet_16 dX7_isQuiet_17 dX7_isQuiet_19 dX7_isQuiet_22 (Nat.le_of_ble_eq_true rfl) (Nat.le_of_ble_eq_true rfl) (Nat.le_of_ble_eq_true rfl) (Nat.le_of_ble_eq_true rfl) ?_
    exact kx1 (by simp [K_quiet, *])
  · obtain ⟨j, hj, rfl⟩ := ob_ex (by omega) (Bool.eq_false_iff.mpr ho)
    have hcj := nI_clamp (n := j) (by omega)
    refine V_aload_n (i := 0) dX7_isQuiet_0 rfl rfl ?_
    refine V_getf fl_X7_20 dX7_isQuiet_1 (hp0 hA) rfl ?_
    refine V_iload_n (i := 1) dX7_isQuiet_4 rfl rfl ?_
    refine Cv1_1 (d := 2) cv_X7_105 dX7_isQuiet_5 (t_X5_houseAt_s hA (by decide) h1 hn hj) (hp5 hA (by omega)) rfl rfl (Nat.le_of_ble_eq_true rfl) ⟨Nat.le_refl _, Nat.le_refl _⟩ (by decide) ⟨Nat.le_of_ble_eq_true rfl, Nat.le_of_ble_eq_true rfl⟩ ?_
    refine V_astore_n (i := 2) dX7_isQuiet_8 rfl (by decide) ?_
    refine V_aload_n (i := 2) dX7_isQuiet_9 rfl rfl ?_
    refine V_ifnonnull (tgt := 23) dX7_isQuiet_10 (by decide) ?_
    refine V_aload_n (i := 2) dX7_isQuiet_23 rfl rfl ?_
    refine Cv1_0 (d := 2) cv_X7_177 dX7_isQuiet_24 (t_X3_dogStillLets hA (by decide) (by omega)) (hp9 hA (by omega) (by omega)) rfl rfl (Nat.le_of_ble_eq_true rfl) ⟨Nat.le_refl _, Nat.le_refl _⟩ (by decide) ⟨Nat.le_of_ble_eq_true rfl, Nat.le_of_ble_eq_true rfl⟩ ?_
    refine V_if_le (tgt := 34) dX7_isQuiet_27 (by decide) (fun h27 => ?_) (fun h27 => ?_)
    · replace h27 := Int32.not_lt.mpr h27
      refine V_iconst (v := 0) dX7_isQuiet_34 (by decide) ?_
      refine V_zret dX7_isQuiet_35 rfl (by first | rfl | exact bi_n _) (Nat.le_of_ble_eq_true rfl) (Nat.le_of_ble_eq_true rfl) ?_
      refine kok ?_
      first
        | (simp only [K_quiet, *, decide_eq_true h27]; simp [bi]; done)
        | (simp [K_quiet, *, bi]; done)
    · replace h27 := Int32.not_le.mp h27
      refine V_iconst (v := 1) dX7_isQuiet_30 (by decide) ?_
      refine V_goto (tgt := 35) dX7_isQuiet_31 (by decide) ?_
      refine V_zret dX7_isQuiet_35 rfl (by first | rfl | exact bi_n _) (Nat.le_of_ble_eq_true rfl) (Nat.le_of_ble_eq_true rfl) ?_
      refine kok ?_
      first
        | (simp only [K_quiet, *, decide_eq_true h27]; simp [bi]; done)
        | (simp [K_quiet, *, bi]; done)

set_option maxHeartbeats 4000000 in
set_option maxRecDepth 100000 in
theorem t_X7_ranked {D : va_G} {s0 : State} {l : Launch} {B : Nat} {A : AT} {σ : Sg} (hA : AOK B A) (hl : l.stackTraces = false) {nh : Nat} (h1 : σ.1 5 0 1 = nI nh) (hn : nh ≤ 8) {x : Int32} : Tri D s0 l yX7_ranked cX7_ranked 3 ((some .int)) 4 1 6 [.ref (A 0 0 0), .int x] (HP A σ) (fun r G' => (K_ranked (σ.1 5 0) nh x).1 = 0 ∧ r = some (.int (K_ranked (σ.1 5 0) nh x).2) ∧ G' = HP A σ) (fun E G' => ¬ (K_ranked (σ.1 5 0) nh x).1 = 0 ∧ E = (if (K_ranked (σ.1 5 0) nh x).1 = 1 then "java/util/NoSuchElementException" else "") ∧ G' = HP A σ) := by
  refine Tri.ofV (own := RX7) (mn := "ranked") (by decide +kernel) rfl rfl (Nat.le_of_ble_eq_true rfl) ?_
  refine V_aload_n (i := 0) dX7_ranked_0 rfl rfl ?_
  refine V_getf fl_X7_20 dX7_ranked_1 (hp0 hA) rfl ?_
  refine V_iload_n (i := 1) dX7_ranked_4 rfl rfl ?_
  refine Cv1_1 (d := 4) cv_X7_180 dX7_ranked_5 (t_X5_houseOfRank hA (by decide) h1 hn) (hp5 hA (by omega)) rfl rfl (Nat.le_of_ble_eq_true rfl) ⟨Nat.le_refl _, Nat.le_refl _⟩ (by decide) ⟨Nat.le_of_ble_eq_true rfl, Nat.le_of_ble_eq_true rfl⟩ ?_
  refine V_istore_n (i := 2) dX7_ranked_8 rfl (by decide) ?_
  refine V_iload_n (i := 2) dX7_ranked_9 rfl rfl ?_
  refine V_iconst (v := (-1)) dX7_ranked_10 (by decide) ?_
  refine V_icmp_ne (tgt := 24) dX7_ranked_11 (by decide) (fun h11 => ?_) (fun h11 => ?_)
  · refine V_iload_n (i := 2) dX7_ranked_24 rfl rfl ?_
    refine V_iret dX7_ranked_25 rfl (Nat.le_of_ble_eq_true rfl) (Nat.le_of_ble_eq_true rfl) ?_
    refine kok ?_
    first
      | (simp [K_ranked, *]; done)
      | (simp [K_ranked, *, show ob 1 0 2 = false from by decide, show ob 0 0 2 = false from by decide, show ob 14 0 15 = false from by decide, show ob 15 0 15 = false from by decide]; done)
  · refine V_throwX th_163 sr_183 hl dX7_ranked_14 dX7_ranked_17 dX7_ranked_18 dX7_ranked_20 dX7_ranked_23 (Nat.le_of_ble_eq_true rfl) (Nat.le_of_ble_eq_true rfl) (Nat.le_of_ble_eq_true rfl) (Nat.le_of_ble_eq_true rfl) ?_
    exact kx1 (by simp [K_ranked, *])

set_option maxHeartbeats 4000000 in
set_option maxRecDepth 100000 in
theorem t_X7_carried {D : va_G} {s0 : State} {l : Launch} {B : Nat} {A : AT} {σ : Sg} (hA : AOK B A) {nc : Nat} (h2 : σ.1 5 0 2 = nI nc) (hm : nc ≤ 4) : Tri D s0 l yX7_carried cX7_carried 1 ((some .int)) 1 0 0 [.ref (A 0 0 0)] (HP A σ) (fun r G' => r = some (.int (sm (fun c => (σ.1 5 0) (kx c 3)) nc)) ∧ G' = HP A σ) noX := by
  refine Tri.ofV (own := RX7) (mn := "carried") (by decide +kernel) rfl rfl (Nat.le_of_ble_eq_true rfl) ?_
  refine V_aload_n (i := 0) dX7_carried_0 rfl rfl ?_
  refine V_getf fl_X7_20 dX7_carried_1 (hp0 hA) rfl ?_
  refine Cv1_0 (d := 1) cv_X7_185 dX7_carried_4 (t_X5_sacksOfCarriers hA (by decide) h2 hm) (hp5 hA (by omega)) rfl rfl (Nat.le_of_ble_eq_true rfl) ⟨Nat.le_refl _, Nat.le_refl _⟩ (by decide) ⟨Nat.le_of_ble_eq_true rfl, Nat.le_of_ble_eq_true rfl⟩ ?_
  refine V_iret dX7_carried_7 rfl (Nat.le_of_ble_eq_true rfl) (Nat.le_of_ble_eq_true rfl) ?_
  exact ⟨rfl, rfl⟩

set_option maxHeartbeats 4000000 in
set_option maxRecDepth 100000 in
theorem t_X7_carriedAgain {D : va_G} {s0 : State} {l : Launch} {B : Nat} {A : AT} {σ : Sg} (hA : AOK B A) {nh : Nat} (h1 : σ.1 5 0 1 = nI nh) (hn : nh ≤ 8) : Tri D s0 l yX7_carriedAgain cX7_carriedAgain 1 ((some .int)) 4 0 0 [.ref (A 0 0 0)] (HP A σ) (fun r G' => r = some (.int (((σ.1 5 0) 7 + S_sum (σ.1 5 0) nh 4) / 3)) ∧ G' = HP A σ) noX := by
  refine Tri.ofV (own := RX7) (mn := "carriedAgain") (by decide +kernel) rfl rfl (Nat.le_of_ble_eq_true rfl) ?_
  refine V_aload_n (i := 0) dX7_carriedAgain_0 rfl rfl ?_
  refine V_getf fl_X7_20 dX7_carriedAgain_1 (hp0 hA) rfl ?_
  refine Cv1_0 (d := 4) cv_X7_188 dX7_carriedAgain_4 (t_X5_coinsForSacks hA (by decide) h1 hn) (hp5 hA (by omega)) rfl rfl (Nat.le_of_ble_eq_true rfl) ⟨Nat.le_refl _, Nat.le_refl _⟩ (by decide) ⟨Nat.le_of_ble_eq_true rfl, Nat.le_of_ble_eq_true rfl⟩ ?_
  refine V_iconst (v := 3) dX7_carriedAgain_7 (by decide) ?_
  refine V_idiv dX7_carriedAgain_8 (by decide) ?_
  refine V_iret dX7_carriedAgain_9 rfl (Nat.le_of_ble_eq_true rfl) (Nat.le_of_ble_eq_true rfl) ?_
  exact ⟨rfl, rfl⟩




set_option maxHeartbeats 4000000 in
set_option maxRecDepth 100000 in
theorem t_X7_account {D : va_G} {s0 : State} {l : Launch} {B : Nat} {A : AT} {σ : Sg} (hA : AOK B A) (hl : l.stackTraces = false) {nh : Nat} (h1 : σ.1 5 0 1 = nI nh) (hn : nh ≤ 8) {x : Int32} : Tri D s0 l yX7_account cX7_account 2 ((some .int)) 4 1 6 [.ref (A 0 0 0), .int x] (HP A σ) (fun r G' => (K_account (σ.1 5 0) nh (σ.1 3 0 1) (σ.1 11 0 0) x).1 = 0 ∧ r = some (.int (K_account (σ.1 5 0) nh (σ.1 3 0 1) (σ.1 11 0 0) x).2) ∧ G' = HP A σ) (fun E G' => ¬ (K_account (σ.1 5 0) nh (σ.1 3 0 1) (σ.1 11 0 0) x).1 = 0 ∧ E = (if (K_account (σ.1 5 0) nh (σ.1 3 0 1) (σ.1 11 0 0) x).1 = 1 then "java/lang/IllegalArgumentException" else "") ∧ G' = HP A σ) := by
  refine Tri.ofV (own := RX7) (mn := "account") (by decide +kernel) rfl rfl (Nat.le_of_ble_eq_true rfl) ?_
  refine V_iload_n (i := 1) dX7_account_0 rfl rfl ?_
  refine V_iconst (v := 0) dX7_account_1 (by decide) ?_
  refine V_bipush (v := 15) dX7_account_2 (by decide) ?_
  refine Cs1_3 (d := 4) cs_X7_116 dX7_account_4 (t_X7_isOutside hA) (Nat.le_of_ble_eq_true rfl) ⟨Nat.le_refl _, Nat.le_refl _⟩ (by decide) ⟨Nat.le_of_ble_eq_true rfl, Nat.le_of_ble_eq_true rfl⟩ ?_
  refine V_if_eq (tgt := 21) dX7_account_7 (by decide) (fun h7 => ?_) (fun h7 => ?_)
  · replace h7 := bi_0.mp h7
    obtain ⟨m, -, hm7, rfl⟩ := ob_ex2 (a := 0) (b := 15) (by decide) (by decide) h7
    have hcm := nI_clamp (n := m) (by omega)
    refine V_iload_n (i := 1) dX7_account_21 rfl rfl ?_
    refine V_bipush (v := 14) dX7_account_22 (by decide) ?_
    refine V_icmp_ne (tgt := 35) dX7_account_24 (by decide) (fun h24 => ?_) (fun h24 => ?_)
    · refine V_iload_n (i := 1) dX7_account_35 rfl rfl ?_
      refine V_bipush (v := 15) dX7_account_36 (by decide) ?_
      refine V_icmp_ne (tgt := 49) dX7_account_38 (by decide) (fun h38 => ?_) (fun h38 => ?_)
      · refine V_aload_n (i := 0) dX7_account_49 rfl rfl ?_
        refine V_getf fl_X7_20 dX7_account_50 (hp0 hA) rfl ?_
        refine V_iload_n (i := 1) dX7_account_53 rfl rfl ?_
        have hm14 : ¬ m = 14 := fun h => h24 (by rw [h]; rfl)
        have hm15 : ¬ m = 15 := fun h => h38 (by rw [h]; rfl)
        refine Cv1_1 (d := 4) cv_X7_292 dX7_account_54 (t_X5_number hA (by decide) h1 hn (by omega)) (hp5 hA (by omega)) rfl rfl (Nat.le_of_ble_eq_true rfl) ⟨Nat.le_refl _, Nat.le_refl _⟩ (by decide) ⟨Nat.le_of_ble_eq_true rfl, Nat.le_of_ble_eq_true rfl⟩ ?_
        refine V_iret dX7_account_57 rfl (Nat.le_of_ble_eq_true rfl) (Nat.le_of_ble_eq_true rfl) ?_
        refine kok ?_
        first
          | (simp [K_account, *]; done)
          | (simp [K_account, *, show ob 1 0 2 = false from by decide, show ob 0 0 2 = false from by decide, show ob 14 0 15 = false from by decide, show ob 15 0 15 = false from by decide]; done)
      · refine V_aload_n (i := 0) dX7_account_41 rfl rfl ?_
        refine V_getf fl_X7_44 dX7_account_42 (hp0 hA) rfl ?_
        refine V_getf fl_X7_191 dX7_account_45 (hp11 hA) rfl ?_
        refine V_iret dX7_account_48 rfl (Nat.le_of_ble_eq_true rfl) (Nat.le_of_ble_eq_true rfl) ?_
        refine kok ?_
        first
          | (simp [K_account, *]; done)
          | (simp [K_account, *, show ob 1 0 2 = false from by decide, show ob 0 0 2 = false from by decide, show ob 14 0 15 = false from by decide, show ob 15 0 15 = false from by decide]; done)
    · refine V_aload_n (i := 0) dX7_account_27 rfl rfl ?_
      refine V_getf fl_X7_31 dX7_account_28 (hp0 hA) rfl ?_
      refine V_getf fl_X7_291 dX7_account_31 (hp3 hA) rfl ?_
      refine V_iret dX7_account_34 rfl (Nat.le_of_ble_eq_true rfl) (Nat.le_of_ble_eq_true rfl) ?_
      refine kok ?_
      first
        | (simp [K_account, *]; done)
        | (simp [K_account, *, show ob 1 0 2 = false from by decide, show ob 0 0 2 = false from by decide, show ob 14 0 15 = false from by decide, show ob 15 0 15 = false from by decide]; done)
  · replace h7 := bi_1.mp h7
    refine V_throwSW th_120 sr_289 hl dX7_account_10 dX7_account_13 dX7_account_14 dX7_account_17 dX7_account_20 (Nat.le_of_ble_eq_true rfl) (Nat.le_of_ble_eq_true rfl) (Nat.le_of_ble_eq_true rfl) (Nat.le_of_ble_eq_true rfl) ?_
    exact kx1 (by simp [K_account, *])

def undS (σ : Sg) (nx cn : Nat) : Sg := cp (w3 (w3 σ 3 0 0 (nI ((nx + 8) % 9))) 3 0 1 (nI (cn - 1))) 0 (2 + (nx + 8) % 9) (fun j => decide (j < 102))



