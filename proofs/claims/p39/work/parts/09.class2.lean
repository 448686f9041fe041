/-! the class: streets -/
theorem arn_at {n : Nat} {f : Nat → Int32} {j : Nat} (h : j < n) : arn n f j = .int (f j) := if_pos h
theorem ob_nn {j a b : Nat} (h1 : j < 2147483648) (h2 : a < 2147483648) (h3 : b < 2147483648) : ob (nI j) (nI a) (nI b) = (decide (j < a) || decide (b < j)) := by
  unfold ob
  rw [decide_eq_decide.mpr (nI_ltI h1 h2), decide_eq_decide.mpr (nI_ltI h3 h1)]
theorem ob_in {j n : Nat} (h : j < n) (hn : n < 1000) : ob (nI j) 0 (nI n - 1) = false := by
  rw [show nI n - 1 = nI (n - 1) from pk_sub (a := n) (b := 1) (by omega), show (0 : Int32) = nI 0 from rfl, ob_nn (by omega) (by omega) (by omega)]
  simp
  omega
theorem ob_ex {x : Int32} {n : Nat} (hn : n < 1000) (h : ob x 0 (nI n - 1) = false) : ∃ j, j < n ∧ x = nI j := by
  simp only [ob, Bool.or_eq_false_iff, decide_eq_false_iff_not] at h
  obtain ⟨j, hj, rfl⟩ := nI_of h.1
  refine ⟨j, ?_, rfl⟩
  by_cases h0 : n = 0
  · subst h0
    exact absurd (show nI 0 - 1 < nI j by
      have e : nI 0 - 1 = -1 := by decide
      rw [e, Int32.lt_iff_toInt_lt, nI_toInt (by omega)]
      show (-1 : Int) < _
      omega) h.2
  · rw [show nI n - 1 = nI (n - 1) from pk_sub (a := n) (b := 1) (by omega), nI_ltI (by omega) (by omega)] at h
    omega
def S_upw (w : Nat → Int32) (p : Int32) : Nat → (Nat → Int32)
  | 0 => w
  | i + 1 => up (S_upw w p i) (10 + i) (if S_upw w p i (10 + i) + p < 20 then S_upw w p i (10 + i) + p else 20)
def S_up (w : Nat → Int32) (p : Int32) : Nat → Int32 := up (S_upw w p 4) 9 (S_upw w p 4 9 + p)
def S_dayh (w : Nat → Int32) (nw : Bool) : Nat → (Nat → Int32)
  | 0 => w
  | i + 1 => if nw = true then S_hweek (S_hday (S_dayh w nw i) i) i else S_hday (S_dayh w nw i) i
def S_dayc (w : Nat → Int32) : Nat → (Nat → Int32)
  | 0 => w
  | i + 1 => S_cday (S_dayc w i) i
def S_new (w : Nat → Int32) : Bool := decide (w 0 - w 0 / 7 * 7 = 0)
def S_day (w : Nat → Int32) (nh nc : Nat) : Nat → Int32 := S_dayc (S_dayh (up w 0 (w 0 + 1)) (S_new (up w 0 (w 0 + 1))) nh) nc
theorem S_hday_lo {w : Nat → Int32} {i j : Nat} (h : j < 14) : S_hday w i j = w j := by
  unfold S_hday
  rw [up_ne (by unfold hx; omega), up_ne (by unfold hx; omega)]
theorem S_hweek_lo {w : Nat → Int32} {i j : Nat} (h : j < 14) : S_hweek w i j = w j := by
  unfold S_hweek
  rw [up_ne (by unfold hx; omega)]
theorem S_dayh_lo {w : Nat → Int32} {nw : Bool} {j : Nat} (h : j < 14) : ∀ i, S_dayh w nw i j = w j
  | 0 => rfl
  | i + 1 => by
    unfold S_dayh
    split
    · rw [S_hweek_lo h, S_hday_lo h, S_dayh_lo h i]
    · rw [S_hday_lo h, S_dayh_lo h i]
theorem S_dayc_lo {w : Nat → Int32} {j : Nat} (h : j < 86) : ∀ i, S_dayc w i j = w j
  | 0 => rfl
  | i + 1 => by
    unfold S_dayc S_cday
    rw [up_ne (by unfold kx; omega), up_ne (by unfold kx; omega), S_dayc_lo h i]
theorem S_upw_lo {w : Nat → Int32} {p : Int32} {j : Nat} (h : j < 10) : ∀ i, S_upw w p i j = w j
  | 0 => rfl
  | i + 1 => by
    unfold S_upw
    rw [up_ne (by omega), S_upw_lo h i]
/-- the best carrier so far: who, how many, how black -/
def S_st (w : Nat → Int32) (h : Nat) : Nat → Int32 × Int32 × Int32
  | 0 => (-1, 0, 0)
  | n + 1 => if (S_st w h n).2.1 < S_can w n h ∨ ((¬ (S_st w h n).1 = -1 ∧ S_can w n h = (S_st w h n).2.1) ∧ w (kx n 2) < (S_st w h n).2.2) then (nI n, S_can w n h, w (kx n 2)) else S_st w h n
def S_ahead (w : Nat → Int32) (j i : Nat) : Bool :=
  if w (hx j 4) = w (hx i 4) then (if w (hx j 3) = w (hx i 3) then decide (j < i) else decide (w (hx i 3) < w (hx j 3))) else decide (w (hx i 4) < w (hx j 4))
def S_cnt (w : Nat → Int32) (nh i : Nat) : Int32 := sm (fun j => bi (S_ahead w j i)) nh
def S_rk (w : Nat → Int32) (nh : Nat) (x : Int32) : Nat → Nat → Int32
  | 0, _ => -1
  | n + 1, i => if S_cnt w nh i = x then nI i else S_rk w nh x n (i + 1)
def S_sum (w : Nat → Int32) (nh q : Nat) : Int32 := sm (fun i => S_hnum w i q) nh
def S_num (w : Nat → Int32) (nh q : Nat) : Int32 := match q with
  | 0 => w 0
  | 1 => w 1
  | 2 => w 2
  | 3 => w 3
  | 4 => w 4
  | 5 => w 5
  | 6 => S_sum w nh 3
  | 7 => S_sum w nh 4
  | 8 => S_sum w nh 5
  | 9 => w 6
  | 10 => w 7
  | 11 => w 8
  | 12 => S_shoes w
  | _ => w 9

set_option maxHeartbeats 4000000 in
set_option maxRecDepth 100000 in
theorem t_X5_houseAt_n {D : va_G} {s0 : State} {l : Launch} {B : Nat} {A : AT} {σ : Sg} (hA : AOK B A) {k nh : Nat} (hk : k < 11) (h1 : σ.1 5 k 1 = nI nh) (hn : nh ≤ 8) {x : Int32} (ho : ob x 0 (nI nh - 1) = true) : Tri D s0 l yX5_houseAt cX5_houseAt 2 ((some (.object "CoalStairs$House"))) 1 0 0 [.ref (A 5 k 0), .int x] (HP A σ) (fun r G' => r = some .null ∧ G' = HP A σ) noX := by
  refine Tri.ofV (own := RX5) (mn := "houseAt") (by decide +kernel) rfl rfl (Nat.le_of_ble_eq_true rfl) ?_
  refine V_iload_n (i := 1) dX5_houseAt_0 rfl rfl ?_
  refine V_iconst (v := 0) dX5_houseAt_1 (by decide) ?_
  refine V_aload_n (i := 0) dX5_houseAt_2 rfl rfl ?_
  refine V_getf fl_X5_46 dX5_houseAt_3 (hp5 hA (by omega)) rfl ?_
  refine V_iconst (v := 1) dX5_houseAt_6 (by decide) ?_
  refine V_isub dX5_houseAt_7 ?_
  refine Cn1_3 (d := 1) cn_X5_67 st_X7_isOutside dX5_houseAt_8 (t_X7_isOutside hA) (Nat.le_of_ble_eq_true rfl) ⟨Nat.le_refl _, Nat.le_refl _⟩ (by decide) ⟨Nat.le_of_ble_eq_true rfl, Nat.le_of_ble_eq_true rfl⟩ ?_
  refine V_if_eq (tgt := 18) dX5_houseAt_11 (by decide) (fun h11 => by first | exact absurd h11 (by rw [h1, ho]; decide) | exact absurd (by rw [h1, ho]; decide) h11) (fun _ => ?_)
  refine V_null dX5_houseAt_14 ?_
  refine V_goto (tgt := 24) dX5_houseAt_15 (by decide) ?_
  refine V_aret dX5_houseAt_24 rfl (Or.inl ⟨_, rfl⟩) (Or.inl rfl) (Nat.le_of_ble_eq_true rfl) (Nat.le_of_ble_eq_true rfl) ?_
  exact ⟨rfl, rfl⟩

set_option maxHeartbeats 4000000 in
set_option maxRecDepth 100000 in
theorem t_X5_houseAt_s {D : va_G} {s0 : State} {l : Launch} {B : Nat} {A : AT} {σ : Sg} (hA : AOK B A) {k nh : Nat} (hk : k < 11) (h1 : σ.1 5 k 1 = nI nh) (hn : nh ≤ 8) {j : Nat} (hj : j < nh) : Tri D s0 l yX5_houseAt cX5_houseAt 2 ((some (.object "CoalStairs$House"))) 1 0 0 [.ref (A 5 k 0), .int (nI j)] (HP A σ) (fun r G' => r = some (.ref (A 9 k j)) ∧ G' = HP A σ) noX := by
  refine Tri.ofV (own := RX5) (mn := "houseAt") (by decide +kernel) rfl rfl (Nat.le_of_ble_eq_true rfl) ?_
  refine V_iload_n (i := 1) dX5_houseAt_0 rfl rfl ?_
  refine V_iconst (v := 0) dX5_houseAt_1 (by decide) ?_
  refine V_aload_n (i := 0) dX5_houseAt_2 rfl rfl ?_
  refine V_getf fl_X5_46 dX5_houseAt_3 (hp5 hA (by omega)) rfl ?_
  refine V_iconst (v := 1) dX5_houseAt_6 (by decide) ?_
  refine V_isub dX5_houseAt_7 ?_
  refine Cn1_3 (d := 1) cn_X5_67 st_X7_isOutside dX5_houseAt_8 (t_X7_isOutside hA) (Nat.le_of_ble_eq_true rfl) ⟨Nat.le_refl _, Nat.le_refl _⟩ (by decide) ⟨Nat.le_of_ble_eq_true rfl, Nat.le_of_ble_eq_true rfl⟩ ?_
  refine V_if_eq (tgt := 18) dX5_houseAt_11 (by decide) (fun _ => ?_) (fun h11 => by first | exact absurd (by rw [h1, ob_in hj (by omega)]; decide) h11 | exact absurd h11 (by rw [h1, ob_in hj (by omega)]; decide))
  refine V_aload_n (i := 0) dX5_houseAt_18 rfl rfl ?_
  refine V_getf fl_X5_11 dX5_houseAt_19 (hp5 hA (by omega)) rfl ?_
  refine V_iload_n (i := 1) dX5_houseAt_22 rfl rfl ?_
  refine V_aald9 dX5_houseAt_23 (hp6 hA hk) rfl rfl (by omega) (by decide) rfl ?_
  refine V_aret dX5_houseAt_24 rfl (Or.inl ⟨_, rfl⟩) (Or.inr ⟨_, rfl⟩) (Nat.le_of_ble_eq_true rfl) (Nat.le_of_ble_eq_true rfl) ?_
  exact ⟨rfl, rfl⟩

set_option maxHeartbeats 4000000 in
set_option maxRecDepth 100000 in
theorem t_X5_carrierAt_n {D : va_G} {s0 : State} {l : Launch} {B : Nat} {A : AT} {σ : Sg} (hA : AOK B A) {k nc : Nat} (hk : k < 11) (h2 : σ.1 5 k 2 = nI nc) (hn : nc ≤ 4) {x : Int32} (ho : ob x 0 (nI nc - 1) = true) : Tri D s0 l yX5_carrierAt cX5_carrierAt 2 ((some (.object "CoalStairs$Carrier"))) 1 0 0 [.ref (A 5 k 0), .int x] (HP A σ) (fun r G' => r = some .null ∧ G' = HP A σ) noX := by
  refine Tri.ofV (own := RX5) (mn := "carrierAt") (by decide +kernel) rfl rfl (Nat.le_of_ble_eq_true rfl) ?_
  refine V_iload_n (i := 1) dX5_carrierAt_0 rfl rfl ?_
  refine V_iconst (v := 0) dX5_carrierAt_1 (by decide) ?_
  refine V_aload_n (i := 0) dX5_carrierAt_2 rfl rfl ?_
  refine V_getf fl_X5_49 dX5_carrierAt_3 (hp5 hA (by omega)) rfl ?_
  refine V_iconst (v := 1) dX5_carrierAt_6 (by decide) ?_
  refine V_isub dX5_carrierAt_7 ?_
  refine Cn1_3 (d := 1) cn_X5_67 st_X7_isOutside dX5_carrierAt_8 (t_X7_isOutside hA) (Nat.le_of_ble_eq_true rfl) ⟨Nat.le_refl _, Nat.le_refl _⟩ (by decide) ⟨Nat.le_of_ble_eq_true rfl, Nat.le_of_ble_eq_true rfl⟩ ?_
  refine V_if_eq (tgt := 18) dX5_carrierAt_11 (by decide) (fun h11 => by first | exact absurd h11 (by rw [h2, ho]; decide) | exact absurd (by rw [h2, ho]; decide) h11) (fun _ => ?_)
  refine V_null dX5_carrierAt_14 ?_
  refine V_goto (tgt := 24) dX5_carrierAt_15 (by decide) ?_
  refine V_aret dX5_carrierAt_24 rfl (Or.inl ⟨_, rfl⟩) (Or.inl rfl) (Nat.le_of_ble_eq_true rfl) (Nat.le_of_ble_eq_true rfl) ?_
  exact ⟨rfl, rfl⟩

set_option maxHeartbeats 4000000 in
set_option maxRecDepth 100000 in
theorem t_X5_carrierAt_s {D : va_G} {s0 : State} {l : Launch} {B : Nat} {A : AT} {σ : Sg} (hA : AOK B A) {k nc : Nat} (hk : k < 11) (h2 : σ.1 5 k 2 = nI nc) (hn : nc ≤ 4) {j : Nat} (hj : j < nc) : Tri D s0 l yX5_carrierAt cX5_carrierAt 2 ((some (.object "CoalStairs$Carrier"))) 1 0 0 [.ref (A 5 k 0), .int (nI j)] (HP A σ) (fun r G' => r = some (.ref (A 10 k j)) ∧ G' = HP A σ) noX := by
  refine Tri.ofV (own := RX5) (mn := "carrierAt") (by decide +kernel) rfl rfl (Nat.le_of_ble_eq_true rfl) ?_
  refine V_iload_n (i := 1) dX5_carrierAt_0 rfl rfl ?_
  refine V_iconst (v := 0) dX5_carrierAt_1 (by decide) ?_
  refine V_aload_n (i := 0) dX5_carrierAt_2 rfl rfl ?_
  refine V_getf fl_X5_49 dX5_carrierAt_3 (hp5 hA (by omega)) rfl ?_
  refine V_iconst (v := 1) dX5_carrierAt_6 (by decide) ?_
  refine V_isub dX5_carrierAt_7 ?_
  refine Cn1_3 (d := 1) cn_X5_67 st_X7_isOutside dX5_carrierAt_8 (t_X7_isOutside hA) (Nat.le_of_ble_eq_true rfl) ⟨Nat.le_refl _, Nat.le_refl _⟩ (by decide) ⟨Nat.le_of_ble_eq_true rfl, Nat.le_of_ble_eq_true rfl⟩ ?_
  refine V_if_eq (tgt := 18) dX5_carrierAt_11 (by decide) (fun _ => ?_) (fun h11 => by first | exact absurd (by rw [h2, ob_in hj (by omega)]; decide) h11 | exact absurd h11 (by rw [h2, ob_in hj (by omega)]; decide))
  refine V_aload_n (i := 0) dX5_carrierAt_18 rfl rfl ?_
  refine V_getf fl_X5_19 dX5_carrierAt_19 (hp5 hA (by omega)) rfl ?_
  refine V_iload_n (i := 1) dX5_carrierAt_22 rfl rfl ?_
  refine V_aald9 dX5_carrierAt_23 (hp7 hA hk) rfl rfl (by omega) (by decide) rfl ?_
  refine V_aret dX5_carrierAt_24 rfl (Or.inl ⟨_, rfl⟩) (Or.inr ⟨_, rfl⟩) (Nat.le_of_ble_eq_true rfl) (Nat.le_of_ble_eq_true rfl) ?_
  exact ⟨rfl, rfl⟩

set_option maxHeartbeats 4000000 in
set_option maxRecDepth 100000 in
theorem t_X5_houseHere_n {D : va_G} {s0 : State} {l : Launch} {B : Nat} {A : AT} {σ : Sg} (hA : AOK B A) {k nh : Nat} (hk : k < 11) (h1 : σ.1 5 k 1 = nI nh) (hn : nh ≤ 8) (h3 : σ.1 5 k 3 = 0) : Tri D s0 l yX5_houseHere cX5_houseHere 1 ((some (.object "CoalStairs$House"))) 2 0 0 [.ref (A 5 k 0)] (HP A σ) (fun r G' => r = some .null ∧ G' = HP A σ) noX := by
  refine Tri.ofV (own := RX5) (mn := "houseHere") (by decide +kernel) rfl rfl (Nat.le_of_ble_eq_true rfl) ?_
  refine V_aload_n (i := 0) dX5_houseHere_0 rfl rfl ?_
  refine V_aload_n (i := 0) dX5_houseHere_1 rfl rfl ?_
  refine V_getf fl_X5_55 dX5_houseHere_2 (hp5 hA (by omega)) rfl ?_
  refine V_iconst (v := 1) dX5_houseHere_5 (by decide) ?_
  refine V_isub dX5_houseHere_6 ?_
  refine Cv1_1 (d := 2) cv_X5_71 dX5_houseHere_7 (t_X5_houseAt_n hA hk h1 hn (by rw [h3]; simp [ob])) (hp5 hA (by omega)) rfl rfl (Nat.le_of_ble_eq_true rfl) ⟨Nat.le_refl _, Nat.le_refl _⟩ (by decide) ⟨Nat.le_of_ble_eq_true rfl, Nat.le_of_ble_eq_true rfl⟩ ?_
  refine V_aret dX5_houseHere_10 rfl (Or.inl ⟨_, rfl⟩) (Or.inl rfl) (Nat.le_of_ble_eq_true rfl) (Nat.le_of_ble_eq_true rfl) ?_
  exact ⟨rfl, rfl⟩

set_option maxHeartbeats 4000000 in
set_option maxRecDepth 100000 in
theorem t_X5_houseHere_s {D : va_G} {s0 : State} {l : Launch} {B : Nat} {A : AT} {σ : Sg} (hA : AOK B A) {k nh : Nat} (hk : k < 11) (h1 : σ.1 5 k 1 = nI nh) (hn : nh ≤ 8) {pl : Nat} (h3 : σ.1 5 k 3 = nI pl) (h4 : 1 ≤ pl) (h5 : pl ≤ nh) : Tri D s0 l yX5_houseHere cX5_houseHere 1 ((some (.object "CoalStairs$House"))) 2 0 0 [.ref (A 5 k 0)] (HP A σ) (fun r G' => r = some (.ref (A 9 k (pl - 1))) ∧ G' = HP A σ) noX := by
  refine Tri.ofV (own := RX5) (mn := "houseHere") (by decide +kernel) rfl rfl (Nat.le_of_ble_eq_true rfl) ?_
  refine V_aload_n (i := 0) dX5_houseHere_0 rfl rfl ?_
  refine V_aload_n (i := 0) dX5_houseHere_1 rfl rfl ?_
  refine V_getf fl_X5_55 dX5_houseHere_2 (hp5 hA (by omega)) rfl ?_
  refine V_iconst (v := 1) dX5_houseHere_5 (by decide) ?_
  refine V_isub dX5_houseHere_6 ?_
  rw [show σ.1 5 k 3 - 1 = nI (pl - 1) from by rw [h3]; exact pk_sub (a := pl) (b := 1) h4]
  refine Cv1_1 (d := 2) cv_X5_71 dX5_houseHere_7 (t_X5_houseAt_s hA hk h1 hn (by omega)) (hp5 hA (by omega)) rfl rfl (Nat.le_of_ble_eq_true rfl) ⟨Nat.le_refl _, Nat.le_refl _⟩ (by decide) ⟨Nat.le_of_ble_eq_true rfl, Nat.le_of_ble_eq_true rfl⟩ ?_
  refine V_aret dX5_houseHere_10 rfl (Or.inl ⟨_, rfl⟩) (Or.inr ⟨_, rfl⟩) (Nat.le_of_ble_eq_true rfl) (Nat.le_of_ble_eq_true rfl) ?_
  exact ⟨rfl, rfl⟩

set_option maxHeartbeats 4000000 in
set_option maxRecDepth 100000 in
theorem t_X5_shoesLeft {D : va_G} {s0 : State} {l : Launch} {B : Nat} {A : AT} {σ : Sg} (hA : AOK B A) {k : Nat} (hk : k < 11) : Tri D s0 l yX5_shoesLeft cX5_shoesLeft 3 ((some .int)) 0 0 0 [.ref (A 5 k 0)] (HP A σ) (fun r G' => r = some (.int (S_shoes (σ.1 5 k))) ∧ G' = HP A σ) noX := by
  refine Tri.ofV (own := RX5) (mn := "shoesLeft") (by decide +kernel) rfl rfl (Nat.le_of_ble_eq_true rfl) ?_
  have loop : ∀ n i : Nat, i + n = 4 → V D s0 RX5 "shoesLeft" cX5_shoesLeft 3 ((some .int)) [] l (rmd 0 0 0) (Zm D s0 0 0 (fun r G' => r = some (.int (S_shoes (σ.1 5 k))) ∧ G' = HP A σ) noX) 4 [(0, .ref (A 5 k 0)), (1, .int (sm (S_worn (σ.1 5 k)) i)), (2, .int (nI i))] [] (HP A σ) 0 0 := by
    intro n
    induction n with
    | zero =>
      intro i hi9
      obtain rfl : 4 = i := by omega
      refine V_iload_n (i := 2) dX5_shoesLeft_4 rfl rfl ?_
      refine V_iconst (v := nI 4) dX5_shoesLeft_5 (by decide) ?_
      refine V_icmp_ge (tgt := 29) dX5_shoesLeft_6 (by decide) (fun _ => ?_) (fun h6 => by first | exact absurd (nI_le (Nat.le_refl 4) (by omega)) h6 | exact absurd h6 (nI_le (Nat.le_refl 4) (by omega)))
      refine V_iload_n (i := 1) dX5_shoesLeft_29 rfl rfl ?_
      refine V_iret dX5_shoesLeft_30 rfl (Nat.le_of_ble_eq_true rfl) (Nat.le_of_ble_eq_true rfl) ?_
      exact ⟨rfl, rfl⟩
    | succ n ih =>
      intro i hi9
      have k9 := ih (i + 1) (by omega)
      have hi8 : i < 4 := by omega
      refine V_iload_n (i := 2) dX5_shoesLeft_4 rfl rfl ?_
      refine V_iconst (v := nI 4) dX5_shoesLeft_5 (by decide) ?_
      refine V_icmp_ge (tgt := 29) dX5_shoesLeft_6 (by decide) (fun h6 => by first | exact absurd h6 (nI_ge (by omega) (by omega)) | exact absurd (nI_ge (by omega) (by omega)) h6) (fun _ => ?_)
      refine V_aload_n (i := 0) dX5_shoesLeft_9 rfl rfl ?_
      refine V_getf fl_X5_23 dX5_shoesLeft_10 (hp5 hA (by omega)) rfl ?_
      refine V_iload_n (i := 2) dX5_shoesLeft_13 rfl rfl ?_
      refine V_iald9 dX5_shoesLeft_14 (hp8 hA hk) rfl (by omega) (by decide) (arn_at (by omega)) ?_
      refine V_bipush (v := 20) dX5_shoesLeft_15 (by decide) ?_
      refine V_icmp_ge (tgt := 23) dX5_shoesLeft_17 (by decide) (fun h17 => ?_) (fun h17 => ?_)
      · refine V_iinc (i := 2) dX5_shoesLeft_23 rfl (inc1 _) (by decide) ?_
        refine V_goto (tgt := 4) dX5_shoesLeft_26 (by decide) ?_
        first | exact V.fin [1, 2, 0] rfl rfl k9 | (rw [show sm (S_worn (σ.1 5 k)) (i + 1) = sm (S_worn (σ.1 5 k)) i from by rw [sm, S_worn, if_pos h17]; exact Int32.add_zero _] at k9; exact V.fin [1, 2, 0] rfl rfl k9)
      · refine V_iinc (i := 1) dX5_shoesLeft_20 rfl (show _ = sm (S_worn (σ.1 5 k)) (i + 1) from by rw [sm, S_worn, if_neg h17]; rfl) (by decide) ?_
        refine V_iinc (i := 2) dX5_shoesLeft_23 rfl (inc1 _) (by decide) ?_
        refine V_goto (tgt := 4) dX5_shoesLeft_26 (by decide) ?_
        first | exact V.fin [2, 1, 0] rfl rfl k9 | (rw [show sm (S_worn (σ.1 5 k)) (i + 1) = sm (S_worn (σ.1 5 k)) i from by rw [sm, S_worn, if_pos h17]; exact Int32.add_zero _] at k9; exact V.fin [2, 1, 0] rfl rfl k9)
  refine V_iconst (v := 0) dX5_shoesLeft_0 (by decide) ?_
  refine V_istore_n (i := 1) dX5_shoesLeft_1 rfl (by decide) ?_
  refine V_iconst (v := nI 0) dX5_shoesLeft_2 (by decide) ?_
  refine V_istore_n (i := 2) dX5_shoesLeft_3 rfl (by decide) ?_
  exact V.fin [2, 1, 0] rfl rfl (loop 4 0 (by omega))

set_option maxHeartbeats 4000000 in
set_option maxRecDepth 100000 in
theorem t_X5_goUphill {D : va_G} {s0 : State} {l : Launch} {B : Nat} {A : AT} {σ : Sg} (hA : AOK B A) {k : Nat} (hk : k < 11) {p : Int32} : Tri D s0 l yX5_goUphill cX5_goUphill 3 (none) 0 0 0 [.ref (A 5 k 0), .int p] (HP A σ) (fun r G' => r = none ∧ G' = HP A (row σ 5 k (S_up (σ.1 5 k) p))) noX := by
  refine Tri.ofV (own := RX5) (mn := "goUphill") (by decide +kernel) rfl rfl (Nat.le_of_ble_eq_true rfl) ?_
  have loop : ∀ n i : Nat, i + n = 4 → V D s0 RX5 "goUphill" cX5_goUphill 3 (none) [] l (rmd 0 0 0) (Zm D s0 0 0 (fun r G' => r = none ∧ G' = HP A (row σ 5 k (S_up (σ.1 5 k) p))) noX) 2 [(0, .ref (A 5 k 0)), (1, .int p), (2, .int (nI i))] [] (HP A (row σ 5 k (S_upw (σ.1 5 k) p i))) 0 0 := by
    intro n
    induction n with
    | zero =>
      intro i hi9
      obtain rfl : 4 = i := by omega
      refine V_iload_n (i := 2) dX5_goUphill_2 rfl rfl ?_
      refine V_iconst (v := nI 4) dX5_goUphill_3 (by decide) ?_
      refine V_icmp_ge (tgt := 32) dX5_goUphill_4 (by decide) (fun _ => ?_) (fun h4 => by first | exact absurd (nI_le (Nat.le_refl 4) (by omega)) h4 | exact absurd h4 (nI_le (Nat.le_refl 4) (by omega)))
      refine V_aload_n (i := 0) dX5_goUphill_32 rfl rfl ?_
      refine V_dup dX5_goUphill_33 rfl ?_
      refine V_getf fl_X5_64 dX5_goUphill_34 (hp5 hA (by omega)) rfl ?_
      refine V_iload_n (i := 1) dX5_goUphill_37 rfl rfl ?_
      refine V_iadd dX5_goUphill_38 ?_
      refine VP_5_12 fl_X5_64 dX5_goUphill_39 hA (by omega) ?_
      refine V_vret dX5_goUphill_42 rfl (Nat.le_of_ble_eq_true rfl) (Nat.le_of_ble_eq_true rfl) ?_
      refine ⟨rfl, congrArg (HP A) ?_⟩
      simp only [w3_row, row_row, row_at]
      rfl
    | succ n ih =>
      intro i hi9
      have k9 := ih (i + 1) (by omega)
      have hi8 : i < 4 := by omega
      refine V_iload_n (i := 2) dX5_goUphill_2 rfl rfl ?_
      refine V_iconst (v := nI 4) dX5_goUphill_3 (by decide) ?_
      refine V_icmp_ge (tgt := 32) dX5_goUphill_4 (by decide) (fun h4 => by first | exact absurd h4 (nI_ge (by omega) (by omega)) | exact absurd (nI_ge (by omega) (by omega)) h4) (fun _ => ?_)
      refine V_aload_n (i := 0) dX5_goUphill_7 rfl rfl ?_
      refine V_getf fl_X5_23 dX5_goUphill_8 (hp5 hA (by omega)) rfl ?_
      refine V_iload_n (i := 2) dX5_goUphill_11 rfl rfl ?_
      refine V_bipush (v := 20) dX5_goUphill_12 (by decide) ?_
      refine V_aload_n (i := 0) dX5_goUphill_14 rfl rfl ?_
      refine V_getf fl_X5_23 dX5_goUphill_15 (hp5 hA (by omega)) rfl ?_
      refine V_iload_n (i := 2) dX5_goUphill_18 rfl rfl ?_
      refine V_iald9 dX5_goUphill_19 (hp8 hA hk) rfl (by omega) (by decide) (arn_at (by omega)) ?_
      refine V_iload_n (i := 1) dX5_goUphill_20 rfl rfl ?_
      refine V_iadd dX5_goUphill_21 ?_
      refine V_mmin cm_X5_75 dX5_goUphill_22 (Nat.le_of_ble_eq_true rfl) (Nat.le_of_ble_eq_true rfl) (Nat.le_of_ble_eq_true rfl) (Nat.le_of_ble_eq_true rfl) ?_
      refine VA_8 dX5_goUphill_25 hA (by omega) rfl (by omega) ?_
      refine V_iinc (i := 2) dX5_goUphill_26 rfl (inc1 _) (by decide) ?_
      refine V_goto (tgt := 2) dX5_goUphill_29 (by decide) ?_
      refine V.fin [1, 2, 0] rfl (congrArg (HP A) ?_) k9
      simp only [w3_row, row_row, row_at]
      rfl
  refine V_iconst (v := nI 0) dX5_goUphill_0 (by decide) ?_
  refine V_istore_n (i := 2) dX5_goUphill_1 rfl (by decide) ?_
  exact V.fin [1, 2, 0] rfl (congrArg (HP A) row_self.symm) (loop 4 0 (by omega))

set_option maxHeartbeats 4000000 in
set_option maxRecDepth 100000 in
theorem t_X5_sumOf {D : va_G} {s0 : State} {l : Launch} {B : Nat} {A : AT} {σ : Sg} (hA : AOK B A) {k nh : Nat} (hk : k < 11) (h1 : σ.1 5 k 1 = nI nh) (hn : nh ≤ 8) {q : Nat} (hq : q < 8) : Tri D s0 l yX5_sumOf cX5_sumOf 4 ((some .int)) 2 0 0 [.ref (A 5 k 0), .int (nI q)] (HP A σ) (fun r G' => r = some (.int (S_sum (σ.1 5 k) nh q)) ∧ G' = HP A σ) noX := by
  refine Tri.ofV (own := RX5) (mn := "sumOf") (by decide +kernel) rfl rfl (Nat.le_of_ble_eq_true rfl) ?_
  have loop : ∀ n i : Nat, i + n = nh → V D s0 RX5 "sumOf" cX5_sumOf 4 ((some .int)) [] l (rmd 2 0 0) (Zm D s0 0 0 (fun r G' => r = some (.int (S_sum (σ.1 5 k) nh q)) ∧ G' = HP A σ) noX) 4 [(0, .ref (A 5 k 0)), (1, .int (nI q)), (2, .int (sm (fun j => S_hnum (σ.1 5 k) j q) i)), (3, .int (nI i))] [] (HP A σ) 0 0 := by
    intro n
    induction n with
    | zero =>
      intro i hi9
      obtain rfl : nh = i := by omega
      refine V_iload_n (i := 3) dX5_sumOf_4 rfl rfl ?_
      refine V_aload_n (i := 0) dX5_sumOf_5 rfl rfl ?_
      refine V_getf fl_X5_46 dX5_sumOf_6 (hp5 hA (by omega)) rfl ?_
      refine V_icmp_ge (tgt := 31) dX5_sumOf_9 (by decide) (fun _ => ?_) (fun h9 => by first | exact absurd (by rw [h1]; exact nI_le (Nat.le_refl _) (by omega)) h9 | exact absurd h9 (by rw [h1]; exact nI_le (Nat.le_refl _) (by omega)))
      refine V_iload_n (i := 2) dX5_sumOf_31 rfl rfl ?_
      refine V_iret dX5_sumOf_32 rfl (Nat.le_of_ble_eq_true rfl) (Nat.le_of_ble_eq_true rfl) ?_
      exact ⟨rfl, rfl⟩
    | succ n ih =>
      intro i hi9
      have k9 := ih (i + 1) (by omega)
      have hi8 : i < nh := by omega
      refine V_iload_n (i := 3) dX5_sumOf_4 rfl rfl ?_
      refine V_aload_n (i := 0) dX5_sumOf_5 rfl rfl ?_
      refine V_getf fl_X5_46 dX5_sumOf_6 (hp5 hA (by omega)) rfl ?_
      refine V_icmp_ge (tgt := 31) dX5_sumOf_9 (by decide) (fun h9 => by first | exact absurd h9 (by rw [h1]; exact nI_ge (by omega) (by omega)) | exact absurd (by rw [h1]; exact nI_ge (by omega) (by omega)) h9) (fun _ => ?_)
      refine V_iload_n (i := 2) dX5_sumOf_12 rfl rfl ?_
      refine V_aload_n (i := 0) dX5_sumOf_13 rfl rfl ?_
      refine V_getf fl_X5_11 dX5_sumOf_14 (hp5 hA (by omega)) rfl ?_
      refine V_iload_n (i := 3) dX5_sumOf_17 rfl rfl ?_
      refine V_aald9 dX5_sumOf_18 (hp6 hA hk) rfl rfl (by omega) (by decide) rfl ?_
      refine V_iload_n (i := 1) dX5_sumOf_19 rfl rfl ?_
      refine Cv1_1 (d := 2) cv_X5_88 dX5_sumOf_20 (t_X3_number hA hk (by omega) hq) (hp9 hA (by omega) (by omega)) rfl rfl (Nat.le_of_ble_eq_true rfl) ⟨Nat.le_refl _, Nat.le_refl _⟩ (by decide) ⟨Nat.le_of_ble_eq_true rfl, Nat.le_of_ble_eq_true rfl⟩ ?_
      refine V_iadd dX5_sumOf_23 ?_
      refine V_istore_n (i := 2) dX5_sumOf_24 rfl (by decide) ?_
      refine V_iinc (i := 3) dX5_sumOf_25 rfl (inc1 _) (by decide) ?_
      refine V_goto (tgt := 4) dX5_sumOf_28 (by decide) ?_
      refine V.fin [2, 3, 1, 0] rfl (congrArg (HP A) ?_) k9
      rfl
  refine V_iconst (v := 0) dX5_sumOf_0 (by decide) ?_
  refine V_istore_n (i := 2) dX5_sumOf_1 rfl (by decide) ?_
  refine V_iconst (v := nI 0) dX5_sumOf_2 (by decide) ?_
  refine V_istore_n (i := 3) dX5_sumOf_3 rfl (by decide) ?_
  exact V.fin [2, 3, 1, 0] rfl rfl (loop nh 0 (by omega))
