/-! the class: its changes -/
abbrev ST : Type := (Int32 × Int32) × Int32 × (Nat → Int32)
def rfz (σ : Sg) (a b : Int32) : Sg := w3 (w3 (w3 σ 2 0 0 a) 2 0 1 b) 2 0 2 0
/-- what a change answers: -1 where it is refused -/
def wA (S : ST) : Int32 := if S.1.1 = 0 then S.2.1 else -1
def wS (σ : Sg) (S : ST) : Sg := if S.1.1 = 0 then row σ 5 0 S.2.2 else rfz σ S.1.1 S.1.2
theorem fno {A : AT} {σ : Sg} {S : ST} {a b c : Int32} {u : Nat → Int32} (e : S = ((a, b), c, u)) (h : ¬ a = 0) : some (Value.int (-1)) = some (Value.int (wA S)) ∧ HP A (rfz σ a b) = HP A (wS σ S) := by
  subst e
  exact ⟨by rw [wA, if_neg h], by rw [wS, if_neg h]⟩
theorem fok {A : AT} {σ σ' : Sg} {S : ST} {x y : Int32} {u : Nat → Int32} (e : S = ((0, 0), x, u)) (hy : y = x) (hs : σ' = row σ 5 0 u) : some (Value.int y) = some (Value.int (wA S)) ∧ HP A σ' = HP A (wS σ S) := by
  subst e
  subst hy
  subst hs
  exact ⟨rfl, rfl⟩
theorem ob_ex2 {x : Int32} {a b : Nat} (ha : a < 2147483648) (hb : b < 2147483648) (h : ob x (nI a) (nI b) = false) : ∃ m, a ≤ m ∧ m ≤ b ∧ x = nI m := by
  simp only [ob, Bool.or_eq_false_iff, decide_eq_false_iff_not] at h
  obtain ⟨j, hj, rfl⟩ := nI_of (x := x) (fun q => h.1 (by
    rw [Int32.lt_iff_toInt_lt] at q ⊢
    rw [nI_toInt ha]
    have : (0 : Int32).toInt = 0 := by decide
    omega))
  rw [nI_ltI hj ha, nI_ltI hb hj] at h
  exact ⟨j, by omega, by omega, rfl⟩
def S_house_w (w : Nat → Int32) (nh : Nat) (fl dg : Int32) : Nat → Int32 :=
  let u := up (up w (hx nh 0) fl) (hx nh 1) dg
  up u 1 (u 1 + 1)
def S_house (w : Nat → Int32) (nh : Nat) (fl dg : Int32) : ST :=
  if ob fl 0 9 = true then ((1, 0), 0, w) else if ob dg 0 2 = true then ((1, 0), 0, w) else if 8 ≤ nh then ((2, 8), 0, w) else ((0, 0), nI nh, S_house_w w nh fl dg)
def S_carrier_w (w : Nat → Int32) (nc : Nat) (x : Int32) : Nat → Int32 :=
  let u := up w (kx nc 0) x
  up u 2 (u 2 + 1)
def S_carrier (w : Nat → Int32) (nc : Nat) (x : Int32) : ST :=
  if ob x 1 9 = true then ((1, 0), 0, w) else if 4 ≤ nc then ((2, 4), 0, w) else ((0, 0), nI nc, S_carrier_w w nc x)
def S_order (w : Nat → Int32) (nh : Nat) (x n : Int32) : ST :=
  if ob x 0 (nI nh - 1) = true then ((3, x), 0, w) else if ob n 0 4 = true then ((1, 0), 0, w) else ((0, 0), w (hx x.toNatClampNeg 2), up w (hx x.toNatClampNeg 2) n)
def S_load_w (w : Nat → Int32) (n : Int32) : Nat → Int32 :=
  let u := up w 5 (w 5 - n)
  up u 4 (u 4 + n)
def S_load (w : Nat → Int32) (n : Int32) : ST :=
  if ob n 1 30 = true then ((1, 0), 0, w) else if ¬ w 3 = 0 then ((6, w 3), 0, w) else if w 5 < n then ((8, w 5), 0, w) else if 30 < w 4 + n then ((2, 30), 0, w) else ((0, 0), S_load_w w n 4, S_load_w w n)
def S_drive_w (w : Nat → Int32) (x : Int32) : Nat → Int32 := up (S_up w (if 0 < x - w 3 then x - w 3 else 0)) 3 x
def S_drive (w : Nat → Int32) (nh : Nat) (x : Int32) : ST :=
  if ob x 0 (nI nh) = true then ((3, x), 0, w) else if x = w 3 then ((4, x), 0, w) else if w 3 < x ∧ S_shoes w < 3 then ((5, S_shoes w), 0, w) else ((0, 0), S_shoes (S_drive_w w x), S_drive_w w x)
def S_hby (w : Nat → Int32) (h : Nat) (n : Int32) : Int32 × Int32 :=
  if w 4 < n then (8, w 4) else if w (hx h 3) < n then (9, w (hx h 3)) else if 12 < w (hx h 4) then (10, w (hx h 4)) else if 8 < w (hx h 5) then (11, w (hx h 5)) else if S_lets w h < n then (12, S_lets w h) else (0, 0)
def S_sks (w : Nat → Int32) (c h : Nat) : Nat → (Nat → Int32)
  | 0 => w
  | i + 1 => S_sack (S_sks w c h i) c h
def S_carry_w (w : Nat → Int32) (c h m : Nat) : Nat → Int32 := up (S_sks w c h m) 4 (S_sks w c h m 4 - nI m)
def S_carry_t (w : Nat → Int32) (c h : Nat) (n : Int32) : Int32 := w (kx c 1) + n * S_tired w c h
def S_carry (w : Nat → Int32) (nc pl : Nat) (x n : Int32) : ST :=
  if ob x 0 (nI nc - 1) = true then ((3, x), 0, w) else if ob n 1 9 = true then ((1, 0), 0, w) else if pl = 0 then ((7, 0), 0, w) else if ¬ (S_hby w (pl - 1) n).1 = 0 then (S_hby w (pl - 1) n, 0, w)
  else if 30 < S_carry_t w x.toNatClampNeg (pl - 1) n then ((13, S_carry_t w x.toNatClampNeg (pl - 1) n), 0, w)
  else ((0, 0), S_carry_w w x.toNatClampNeg (pl - 1) n.toNatClampNeg (kx x.toNatClampNeg 1), S_carry_w w x.toNatClampNeg (pl - 1) n.toNatClampNeg)
def S_bone_w (w : Nat → Int32) (h : Nat) : Nat → Int32 :=
  let u := up w (hx h 7) 1
  up u 8 (u 8 - 1)
def S_bone (w : Nat → Int32) (pl : Nat) : ST :=
  if pl = 0 then ((7, 0), 0, w) else if w (hx (pl - 1) 1) = 0 ∨ ¬ w (hx (pl - 1) 7) = 0 then ((14, w 3 - 1), 0, w) else if ¬ 1 ≤ w 8 then ((15, 0), 0, w) else ((0, 0), S_bone_w w (pl - 1) 8, S_bone_w w (pl - 1))
def S_bones_w (w : Nat → Int32) (n : Int32) : Nat → Int32 :=
  let u := up w 6 (w 6 - n)
  up u 8 (u 8 + n)
def S_bones (w : Nat → Int32) (n : Int32) : ST :=
  if ob n 1 9 = true then ((1, 0), 0, w) else if w 6 < n then ((16, n - w 6), 0, w) else ((0, 0), S_bones_w w n 8, S_bones_w w n)
def S_mop_w (w : Nat → Int32) (c h : Nat) : Nat → Int32 := up (up w (kx c 1) (w (kx c 1) + (w (hx h 5) + 1) / 2)) (hx h 5) 0
def S_mop (w : Nat → Int32) (nc pl : Nat) (x : Int32) : ST :=
  if ob x 0 (nI nc - 1) = true then ((3, x), 0, w) else if pl = 0 then ((7, 0), 0, w) else if w (hx (pl - 1) 5) = 0 then ((18, w 3 - 1), 0, w)
  else if 30 < w (kx x.toNatClampNeg 1) + (w (hx (pl - 1) 5) + 1) / 2 then ((13, w (kx x.toNatClampNeg 1) + (w (hx (pl - 1) 5) + 1) / 2), 0, w)
  else ((0, 0), w (hx (pl - 1) 5), S_mop_w w x.toNatClampNeg (pl - 1))
def S_pay_w (w : Nat → Int32) (h : Nat) (n : Int32) : Nat → Int32 :=
  let u := up w (hx h 4) (w (hx h 4) - n)
  let v := up u 6 (u 6 + n)
  up v 7 (v 7 + n)
def S_pay (w : Nat → Int32) (nh : Nat) (x n : Int32) : ST :=
  if ob x 0 (nI nh - 1) = true then ((3, x), 0, w) else if ob n 1 99 = true then ((1, 0), 0, w) else if w (hx x.toNatClampNeg 4) < n then ((17, w (hx x.toNatClampNeg 4)), 0, w)
  else ((0, 0), S_pay_w w x.toNatClampNeg n (hx x.toNatClampNeg 4), S_pay_w w x.toNatClampNeg n)
def S_shoe_w (w : Nat → Int32) (j : Nat) : Nat → Int32 := up (up w 6 (w 6 - 4)) (10 + j) 0
def S_shoe (w : Nat → Int32) (x : Int32) : ST :=
  if ob x 0 3 = true then ((3, x), 0, w) else if ¬ w 3 = 0 then ((6, w 3), 0, w) else if w (10 + x.toNatClampNeg) = 0 then ((19, x), 0, w) else if w 6 < 4 then ((16, 4 - w 6), 0, w)
  else ((0, 0), w (10 + x.toNatClampNeg), S_shoe_w w x.toNatClampNeg)
def S_dys (w : Nat → Int32) (nh nc : Nat) : Nat → (Nat → Int32)
  | 0 => w
  | i + 1 => S_day (S_dys w nh nc i) nh nc
def S_days (w : Nat → Int32) (nh nc : Nat) (x : Int32) : ST :=
  if ob x 1 30 = true then ((1, 0), 0, w) else ((0, 0), S_sum (S_dys w nh nc x.toNatClampNeg) nh 3, S_dys w nh nc x.toNatClampNeg)
theorem S_day_lo {w : Nat → Int32} {nh nc j : Nat} (h : j < 14) (h0 : ¬ j = 0) : S_day w nh nc j = w j := by
  unfold S_day
  rw [S_dayc_lo (by omega), S_dayh_lo h, up_ne h0]
theorem S_dys_lo {w : Nat → Int32} {nh nc j : Nat} (h : j < 14) (h0 : ¬ j = 0) : ∀ i, S_dys w nh nc i j = w j
  | 0 => rfl
  | i + 1 => by
    unfold S_dys
    rw [S_day_lo h h0, S_dys_lo h h0 i]

set_option maxHeartbeats 4000000 in
set_option maxRecDepth 100000 in
theorem t_X6_addHouse {D : va_G} {s0 : State} {l : Launch} {B : Nat} {A : AT} {σ : Sg} (hA : AOK B A) {nh : Nat} (h1 : σ.1 5 0 1 = nI nh) (hn : nh ≤ 8) {fl dg : Int32} : Tri D s0 l yX6_addHouse cX6_addHouse 4 ((some .int)) 1 0 0 [.ref (A 1 0 0), .int fl, .int dg] (HP A σ) (fun r G' => r = some (.int (wA (S_house (σ.1 5 0) nh fl dg))) ∧ G' = HP A (wS σ (S_house (σ.1 5 0) nh fl dg))) noX := by
  refine Tri.ofV (own := RX6) (mn := "addHouse") (by decide +kernel) rfl rfl (Nat.le_of_ble_eq_true rfl) ?_
  refine V_iload_n (i := 1) dX6_addHouse_0 rfl rfl ?_
  refine V_iconst (v := 0) dX6_addHouse_1 (by decide) ?_
  refine V_bipush (v := 9) dX6_addHouse_2 (by decide) ?_
  refine Cn1_3 (d := 1) cn_X6_25 st_X7_isOutside dX6_addHouse_4 (t_X7_isOutside hA) (Nat.le_of_ble_eq_true rfl) ⟨Nat.le_refl _, Nat.le_refl _⟩ (by decide) ⟨Nat.le_of_ble_eq_true rfl, Nat.le_of_ble_eq_true rfl⟩ ?_
  refine V_if_ne (tgt := 19) dX6_addHouse_7 (by decide) (fun h7 => ?_) (fun h7 => ?_)
  · replace h7 := bi_1.mp h7
    refine V_aload_n (i := 0) dX6_addHouse_19 rfl rfl ?_
    refine V_getf fl_X6_21 dX6_addHouse_20 (hp1 hA) rfl ?_
    refine V_iconst (v := 1) dX6_addHouse_23 (by decide) ?_
    refine V_iconst (v := 0) dX6_addHouse_24 (by decide) ?_
    refine Cv1_2 (d := 1) cv_X6_29 dX6_addHouse_25 (t_X4_refuse hA) (hp2 hA) rfl rfl (Nat.le_of_ble_eq_true rfl) ⟨Nat.le_refl _, Nat.le_refl _⟩ (by decide) ⟨Nat.le_of_ble_eq_true rfl, Nat.le_of_ble_eq_true rfl⟩ ?_
    refine V_iret dX6_addHouse_28 rfl (Nat.le_of_ble_eq_true rfl) (Nat.le_of_ble_eq_true rfl) ?_
    first
      | exact fno (u := σ.1 5 0) (c := 0) (by simp [S_house, *]) (by decide)
      | exact fok (x := (nI nh)) (u := (S_house_w (σ.1 5 0) nh fl dg)) (by simp [S_house, *]) h1 (by simp only [w3_row, row_row, row_at] <;> rfl)
  · replace h7 := bi_0.mp h7
    refine V_iload_n (i := 2) dX6_addHouse_10 rfl rfl ?_
    refine V_iconst (v := 0) dX6_addHouse_11 (by decide) ?_
    refine V_iconst (v := 2) dX6_addHouse_12 (by decide) ?_
    refine Cn1_3 (d := 1) cn_X6_25 st_X7_isOutside dX6_addHouse_13 (t_X7_isOutside hA) (Nat.le_of_ble_eq_true rfl) ⟨Nat.le_refl _, Nat.le_refl _⟩ (by decide) ⟨Nat.le_of_ble_eq_true rfl, Nat.le_of_ble_eq_true rfl⟩ ?_
    refine V_if_eq (tgt := 29) dX6_addHouse_16 (by decide) (fun h16 => ?_) (fun h16 => ?_)
    · replace h16 := bi_0.mp h16
      refine V_aload_n (i := 0) dX6_addHouse_29 rfl rfl ?_
      refine V_getf fl_X6_12 dX6_addHouse_30 (hp1 hA) rfl ?_
      refine V_getf fl_X6_33 dX6_addHouse_33 (hp5 hA (by omega)) rfl ?_
      refine V_istore_n (i := 3) dX6_addHouse_36 rfl (by decide) ?_
      refine V_iload_n (i := 3) dX6_addHouse_37 rfl rfl ?_
      refine V_bipush (v := nI 8) dX6_addHouse_38 (by decide) ?_
      refine V_icmp_lt (tgt := 54) dX6_addHouse_40 (by decide) (fun h40 => ?_) (fun h40 => ?_)
      · rw [h1, nI_ltI (by omega) (by decide)] at h40
        refine V_aload_n (i := 0) dX6_addHouse_54 rfl rfl ?_
        refine V_getf fl_X6_12 dX6_addHouse_55 (hp1 hA) rfl ?_
        refine V_getf fl_X6_37 dX6_addHouse_58 (hp5 hA (by omega)) rfl ?_
        refine V_iload_n (i := 3) dX6_addHouse_61 rfl rfl ?_
        refine V_aald9 dX6_addHouse_62 (hp6 hA (by decide)) rfl h1 (by omega) (by decide) rfl ?_
        refine V_iload_n (i := 1) dX6_addHouse_63 rfl rfl ?_
        refine VP_9_0 fl_X6_41 dX6_addHouse_64 hA (by omega) (by omega) ?_
        refine V_aload_n (i := 0) dX6_addHouse_67 rfl rfl ?_
        refine V_getf fl_X6_12 dX6_addHouse_68 (hp1 hA) rfl ?_
        refine V_getf fl_X6_37 dX6_addHouse_71 (hp5 hA (by omega)) rfl ?_
        refine V_iload_n (i := 3) dX6_addHouse_74 rfl rfl ?_
        refine V_aald9 dX6_addHouse_75 (hp6 hA (by decide)) rfl h1 (by omega) (by decide) rfl ?_
        refine V_iload_n (i := 2) dX6_addHouse_76 rfl rfl ?_
        refine VP_9_1 fl_X6_46 dX6_addHouse_77 hA (by omega) (by omega) ?_
        refine V_aload_n (i := 0) dX6_addHouse_80 rfl rfl ?_
        refine V_getf fl_X6_12 dX6_addHouse_81 (hp1 hA) rfl ?_
        refine V_dup dX6_addHouse_84 rfl ?_
        refine V_getf fl_X6_33 dX6_addHouse_85 (hp5 hA (by omega)) rfl ?_
        refine V_iconst (v := 1) dX6_addHouse_88 (by decide) ?_
        refine V_iadd dX6_addHouse_89 ?_
        refine VP_5_3 fl_X6_33 dX6_addHouse_90 hA (by omega) ?_
        refine V_iload_n (i := 3) dX6_addHouse_93 rfl rfl ?_
        refine V_iret dX6_addHouse_94 rfl (Nat.le_of_ble_eq_true rfl) (Nat.le_of_ble_eq_true rfl) ?_
        first
          | exact fno (u := σ.1 5 0) (c := 0) (by simp [S_house, *]) (by decide)
          | exact fok (x := (nI nh)) (u := (S_house_w (σ.1 5 0) nh fl dg)) (by simp [S_house, *]) h1 (by simp only [w3_row, row_row, row_at] <;> rfl)
      · rw [h1, nI_ltI (by omega) (by decide)] at h40
        have h41 : 8 ≤ nh := by omega
        refine V_aload_n (i := 0) dX6_addHouse_43 rfl rfl ?_
        refine V_getf fl_X6_21 dX6_addHouse_44 (hp1 hA) rfl ?_
        refine V_iconst (v := 2) dX6_addHouse_47 (by decide) ?_
        refine V_bipush (v := 8) dX6_addHouse_48 (by decide) ?_
        refine Cv1_2 (d := 1) cv_X6_29 dX6_addHouse_50 (t_X4_refuse hA) (hp2 hA) rfl rfl (Nat.le_of_ble_eq_true rfl) ⟨Nat.le_refl _, Nat.le_refl _⟩ (by decide) ⟨Nat.le_of_ble_eq_true rfl, Nat.le_of_ble_eq_true rfl⟩ ?_
        refine V_iret dX6_addHouse_53 rfl (Nat.le_of_ble_eq_true rfl) (Nat.le_of_ble_eq_true rfl) ?_
        first
          | exact fno (u := σ.1 5 0) (c := 0) (by simp [S_house, *]) (by decide)
          | exact fok (x := (nI nh)) (u := (S_house_w (σ.1 5 0) nh fl dg)) (by simp [S_house, *]) h1 (by simp only [w3_row, row_row, row_at] <;> rfl)
    · replace h16 := bi_1.mp h16
      refine V_aload_n (i := 0) dX6_addHouse_19 rfl rfl ?_
      refine V_getf fl_X6_21 dX6_addHouse_20 (hp1 hA) rfl ?_
      refine V_iconst (v := 1) dX6_addHouse_23 (by decide) ?_
      refine V_iconst (v := 0) dX6_addHouse_24 (by decide) ?_
      refine Cv1_2 (d := 1) cv_X6_29 dX6_addHouse_25 (t_X4_refuse hA) (hp2 hA) rfl rfl (Nat.le_of_ble_eq_true rfl) ⟨Nat.le_refl _, Nat.le_refl _⟩ (by decide) ⟨Nat.le_of_ble_eq_true rfl, Nat.le_of_ble_eq_true rfl⟩ ?_
      refine V_iret dX6_addHouse_28 rfl (Nat.le_of_ble_eq_true rfl) (Nat.le_of_ble_eq_true rfl) ?_
      first
        | exact fno (u := σ.1 5 0) (c := 0) (by simp [S_house, *]) (by decide)
        | exact fok (x := (nI nh)) (u := (S_house_w (σ.1 5 0) nh fl dg)) (by simp [S_house, *]) h1 (by simp only [w3_row, row_row, row_at] <;> rfl)

set_option maxHeartbeats 4000000 in
set_option maxRecDepth 100000 in
theorem t_X6_addCarrier {D : va_G} {s0 : State} {l : Launch} {B : Nat} {A : AT} {σ : Sg} (hA : AOK B A) {nc : Nat} (h2 : σ.1 5 0 2 = nI nc) (hm : nc ≤ 4) {x : Int32} : Tri D s0 l yX6_addCarrier cX6_addCarrier 3 ((some .int)) 1 0 0 [.ref (A 1 0 0), .int x] (HP A σ) (fun r G' => r = some (.int (wA (S_carrier (σ.1 5 0) nc x))) ∧ G' = HP A (wS σ (S_carrier (σ.1 5 0) nc x))) noX := by
  refine Tri.ofV (own := RX6) (mn := "addCarrier") (by decide +kernel) rfl rfl (Nat.le_of_ble_eq_true rfl) ?_
  refine V_iload_n (i := 1) dX6_addCarrier_0 rfl rfl ?_
  refine V_iconst (v := 1) dX6_addCarrier_1 (by decide) ?_
  refine V_bipush (v := 9) dX6_addCarrier_2 (by decide) ?_
  refine Cn1_3 (d := 1) cn_X6_25 st_X7_isOutside dX6_addCarrier_4 (t_X7_isOutside hA) (Nat.le_of_ble_eq_true rfl) ⟨Nat.le_refl _, Nat.le_refl _⟩ (by decide) ⟨Nat.le_of_ble_eq_true rfl, Nat.le_of_ble_eq_true rfl⟩ ?_
  refine V_if_eq (tgt := 20) dX6_addCarrier_7 (by decide) (fun h7 => ?_) (fun h7 => ?_)
  · replace h7 := bi_0.mp h7
    refine V_aload_n (i := 0) dX6_addCarrier_20 rfl rfl ?_
    refine V_getf fl_X6_12 dX6_addCarrier_21 (hp1 hA) rfl ?_
    refine V_getf fl_X6_56 dX6_addCarrier_24 (hp5 hA (by omega)) rfl ?_
    refine V_istore_n (i := 2) dX6_addCarrier_27 rfl (by decide) ?_
    refine V_iload_n (i := 2) dX6_addCarrier_28 rfl rfl ?_
    refine V_iconst (v := nI 4) dX6_addCarrier_29 (by decide) ?_
    refine V_icmp_lt (tgt := 43) dX6_addCarrier_30 (by decide) (fun h30 => ?_) (fun h30 => ?_)
    · rw [h2, nI_ltI (by omega) (by decide)] at h30
      refine V_aload_n (i := 0) dX6_addCarrier_43 rfl rfl ?_
      refine V_getf fl_X6_12 dX6_addCarrier_44 (hp1 hA) rfl ?_
      refine V_getf fl_X6_59 dX6_addCarrier_47 (hp5 hA (by omega)) rfl ?_
      refine V_iload_n (i := 2) dX6_addCarrier_50 rfl rfl ?_
      refine V_aald9 dX6_addCarrier_51 (hp7 hA (by decide)) rfl h2 (by omega) (by decide) rfl ?_
      refine V_iload_n (i := 1) dX6_addCarrier_52 rfl rfl ?_
      refine VP_10_0 fl_X6_63 dX6_addCarrier_53 hA (by omega) (by omega) ?_
      refine V_aload_n (i := 0) dX6_addCarrier_56 rfl rfl ?_
      refine V_getf fl_X6_12 dX6_addCarrier_57 (hp1 hA) rfl ?_
      refine V_dup dX6_addCarrier_60 rfl ?_
      refine V_getf fl_X6_56 dX6_addCarrier_61 (hp5 hA (by omega)) rfl ?_
      refine V_iconst (v := 1) dX6_addCarrier_64 (by decide) ?_
      refine V_iadd dX6_addCarrier_65 ?_
      refine VP_5_4 fl_X6_56 dX6_addCarrier_66 hA (by omega) ?_
      refine V_iload_n (i := 2) dX6_addCarrier_69 rfl rfl ?_
      refine V_iret dX6_addCarrier_70 rfl (Nat.le_of_ble_eq_true rfl) (Nat.le_of_ble_eq_true rfl) ?_
      first
        | exact fno (u := σ.1 5 0) (c := 0) (by simp [S_carrier, *]) (by decide)
        | exact fok (x := (nI nc)) (u := (S_carrier_w (σ.1 5 0) nc x)) (by simp [S_carrier, *]) h2 (by simp only [w3_row, row_row, row_at] <;> rfl)
    · rw [h2, nI_ltI (by omega) (by decide)] at h30
      have h41 : 4 ≤ nc := by omega
      refine V_aload_n (i := 0) dX6_addCarrier_33 rfl rfl ?_
      refine V_getf fl_X6_21 dX6_addCarrier_34 (hp1 hA) rfl ?_
      refine V_iconst (v := 2) dX6_addCarrier_37 (by decide) ?_
      refine V_iconst (v := 4) dX6_addCarrier_38 (by decide) ?_
      refine Cv1_2 (d := 1) cv_X6_29 dX6_addCarrier_39 (t_X4_refuse hA) (hp2 hA) rfl rfl (Nat.le_of_ble_eq_true rfl) ⟨Nat.le_refl _, Nat.le_refl _⟩ (by decide) ⟨Nat.le_of_ble_eq_true rfl, Nat.le_of_ble_eq_true rfl⟩ ?_
      refine V_iret dX6_addCarrier_42 rfl (Nat.le_of_ble_eq_true rfl) (Nat.le_of_ble_eq_true rfl) ?_
      first
        | exact fno (u := σ.1 5 0) (c := 0) (by simp [S_carrier, *]) (by decide)
        | exact fok (x := (nI nc)) (u := (S_carrier_w (σ.1 5 0) nc x)) (by simp [S_carrier, *]) h2 (by simp only [w3_row, row_row, row_at] <;> rfl)
  · replace h7 := bi_1.mp h7
    refine V_aload_n (i := 0) dX6_addCarrier_10 rfl rfl ?_
    refine V_getf fl_X6_21 dX6_addCarrier_11 (hp1 hA) rfl ?_
    refine V_iconst (v := 1) dX6_addCarrier_14 (by decide) ?_
    refine V_iconst (v := 0) dX6_addCarrier_15 (by decide) ?_
    refine Cv1_2 (d := 1) cv_X6_29 dX6_addCarrier_16 (t_X4_refuse hA) (hp2 hA) rfl rfl (Nat.le_of_ble_eq_true rfl) ⟨Nat.le_refl _, Nat.le_refl _⟩ (by decide) ⟨Nat.le_of_ble_eq_true rfl, Nat.le_of_ble_eq_true rfl⟩ ?_
    refine V_iret dX6_addCarrier_19 rfl (Nat.le_of_ble_eq_true rfl) (Nat.le_of_ble_eq_true rfl) ?_
    first
      | exact fno (u := σ.1 5 0) (c := 0) (by simp [S_carrier, *]) (by decide)
      | exact fok (x := (nI nc)) (u := (S_carrier_w (σ.1 5 0) nc x)) (by simp [S_carrier, *]) h2 (by simp only [w3_row, row_row, row_at] <;> rfl)

set_option maxHeartbeats 4000000 in
set_option maxRecDepth 100000 in
theorem t_X6_setOrder {D : va_G} {s0 : State} {l : Launch} {B : Nat} {A : AT} {σ : Sg} (hA : AOK B A) {nh : Nat} (h1 : σ.1 5 0 1 = nI nh) (hn : nh ≤ 8) {x n : Int32} : Tri D s0 l yX6_setOrder cX6_setOrder 5 ((some .int)) 2 0 0 [.ref (A 1 0 0), .int x, .int n] (HP A σ) (fun r G' => r = some (.int (wA (S_order (σ.1 5 0) nh x n))) ∧ G' = HP A (wS σ (S_order (σ.1 5 0) nh x n))) noX := by
  refine Tri.ofV (own := RX6) (mn := "setOrder") (by decide +kernel) rfl rfl (Nat.le_of_ble_eq_true rfl) ?_
  by_cases ho : ob x 0 (nI nh - 1) = true
  ·
    refine V_aload_n (i := 0) dX6_setOrder_0 rfl rfl ?_
    refine V_getf fl_X6_12 dX6_setOrder_1 (hp1 hA) rfl ?_
    refine V_iload_n (i := 1) dX6_setOrder_4 rfl rfl ?_
    refine Cv1_1 (d := 2) cv_X6_49 dX6_setOrder_5 (t_X5_houseAt_n hA (by decide) h1 hn ho) (hp5 hA (by omega)) rfl rfl (Nat.le_of_ble_eq_true rfl) ⟨Nat.le_refl _, Nat.le_refl _⟩ (by decide) ⟨Nat.le_of_ble_eq_true rfl, Nat.le_of_ble_eq_true rfl⟩ ?_
    refine V_astore_nN (i := 3) dX6_setOrder_8 rfl (by decide) ?_
    refine V_aload_nN (i := 3) dX6_setOrder_9 rfl rfl ?_
    refine V_ifnonnullN dX6_setOrder_10 ?_
    refine V_aload_n (i := 0) dX6_setOrder_13 rfl rfl ?_
    refine V_getf fl_X6_21 dX6_setOrder_14 (hp1 hA) rfl ?_
    refine V_iconst (v := 3) dX6_setOrder_17 (by decide) ?_
    refine V_iload_n (i := 1) dX6_setOrder_18 rfl rfl ?_
    refine Cv1_2 (d := 2) cv_X6_29 dX6_setOrder_19 (t_X4_refuse hA) (hp2 hA) rfl rfl (Nat.le_of_ble_eq_true rfl) ⟨Nat.le_refl _, Nat.le_refl _⟩ (by decide) ⟨Nat.le_of_ble_eq_true rfl, Nat.le_of_ble_eq_true rfl⟩ ?_
    refine V_iret dX6_setOrder_22 rfl (Nat.le_of_ble_eq_true rfl) (Nat.le_of_ble_eq_true rfl) ?_
    first
      | exact fno (u := σ.1 5 0) (c := 0) (by simp [S_order, *]) (by decide)
      | exact fok (x := ((σ.1 5 0) (hx j 2))) (u := (up (σ.1 5 0) (hx j 2) n)) (by simp [S_order, *]) rfl (by simp only [w3_row, row_row, row_at] <;> rfl)
  · obtain ⟨j, hj, rfl⟩ := ob_ex (by omega) (Bool.eq_false_iff.mpr ho)
    have hc := nI_clamp (n := j) (by omega)
    refine V_aload_n (i := 0) dX6_setOrder_0 rfl rfl ?_
    refine V_getf fl_X6_12 dX6_setOrder_1 (hp1 hA) rfl ?_
    refine V_iload_n (i := 1) dX6_setOrder_4 rfl rfl ?_
    refine Cv1_1 (d := 2) cv_X6_49 dX6_setOrder_5 (t_X5_houseAt_s hA (by decide) h1 hn hj) (hp5 hA (by omega)) rfl rfl (Nat.le_of_ble_eq_true rfl) ⟨Nat.le_refl _, Nat.le_refl _⟩ (by decide) ⟨Nat.le_of_ble_eq_true rfl, Nat.le_of_ble_eq_true rfl⟩ ?_
    refine V_astore_n (i := 3) dX6_setOrder_8 rfl (by decide) ?_
    refine V_aload_n (i := 3) dX6_setOrder_9 rfl rfl ?_
    refine V_ifnonnull (tgt := 23) dX6_setOrder_10 (by decide) ?_
    refine V_iload_n (i := 2) dX6_setOrder_23 rfl rfl ?_
    refine V_iconst (v := 0) dX6_setOrder_24 (by decide) ?_
    refine V_iconst (v := 4) dX6_setOrder_25 (by decide) ?_
    refine Cn1_3 (d := 2) cn_X6_25 st_X7_isOutside dX6_setOrder_26 (t_X7_isOutside hA) (Nat.le_of_ble_eq_true rfl) ⟨Nat.le_refl _, Nat.le_refl _⟩ (by decide) ⟨Nat.le_of_ble_eq_true rfl, Nat.le_of_ble_eq_true rfl⟩ ?_
    refine V_if_eq (tgt := 42) dX6_setOrder_29 (by decide) (fun h29 => ?_) (fun h29 => ?_)
    · replace h29 := bi_0.mp h29
      refine V_aload_n (i := 3) dX6_setOrder_42 rfl rfl ?_
      refine V_getf fl_X6_53 dX6_setOrder_43 (hp9 hA (by omega) (by omega)) rfl ?_
      refine V_istore (i := 4) dX6_setOrder_46 (by decide) ?_
      refine V_aload_n (i := 3) dX6_setOrder_48 rfl rfl ?_
      refine V_iload_n (i := 2) dX6_setOrder_49 rfl rfl ?_
      refine VP_9_2 fl_X6_53 dX6_setOrder_50 hA (by omega) (by omega) ?_
      refine V_iload (i := 4) dX6_setOrder_53 rfl ?_
      refine V_iret dX6_setOrder_55 rfl (Nat.le_of_ble_eq_true rfl) (Nat.le_of_ble_eq_true rfl) ?_
      first
        | exact fno (u := σ.1 5 0) (c := 0) (by simp [S_order, *]) (by decide)
        | exact fok (x := ((σ.1 5 0) (hx j 2))) (u := (up (σ.1 5 0) (hx j 2) n)) (by simp [S_order, *]) rfl (by simp only [w3_row, row_row, row_at] <;> rfl)
    · replace h29 := bi_1.mp h29
      refine V_aload_n (i := 0) dX6_setOrder_32 rfl rfl ?_
      refine V_getf fl_X6_21 dX6_setOrder_33 (hp1 hA) rfl ?_
      refine V_iconst (v := 1) dX6_setOrder_36 (by decide) ?_
      refine V_iconst (v := 0) dX6_setOrder_37 (by decide) ?_
      refine Cv1_2 (d := 2) cv_X6_29 dX6_setOrder_38 (t_X4_refuse hA) (hp2 hA) rfl rfl (Nat.le_of_ble_eq_true rfl) ⟨Nat.le_refl _, Nat.le_refl _⟩ (by decide) ⟨Nat.le_of_ble_eq_true rfl, Nat.le_of_ble_eq_true rfl⟩ ?_
      refine V_iret dX6_setOrder_41 rfl (Nat.le_of_ble_eq_true rfl) (Nat.le_of_ble_eq_true rfl) ?_
      first
        | exact fno (u := σ.1 5 0) (c := 0) (by simp [S_order, *]) (by decide)
        | exact fok (x := ((σ.1 5 0) (hx j 2))) (u := (up (σ.1 5 0) (hx j 2) n)) (by simp [S_order, *]) rfl (by simp only [w3_row, row_row, row_at] <;> rfl)

set_option maxHeartbeats 4000000 in
set_option maxRecDepth 100000 in
theorem t_X6_loadCart {D : va_G} {s0 : State} {l : Launch} {B : Nat} {A : AT} {σ : Sg} (hA : AOK B A) {n : Int32} : Tri D s0 l yX6_loadCart cX6_loadCart 2 ((some .int)) 1 0 0 [.ref (A 1 0 0), .int n] (HP A σ) (fun r G' => r = some (.int (wA (S_load (σ.1 5 0) n))) ∧ G' = HP A (wS σ (S_load (σ.1 5 0) n))) noX := by
  refine Tri.ofV (own := RX6) (mn := "loadCart") (by decide +kernel) rfl rfl (Nat.le_of_ble_eq_true rfl) ?_
  refine V_iload_n (i := 1) dX6_loadCart_0 rfl rfl ?_
  refine V_iconst (v := 1) dX6_loadCart_1 (by decide) ?_
  refine V_bipush (v := 30) dX6_loadCart_2 (by decide) ?_
  refine Cn1_3 (d := 1) cn_X6_25 st_X7_isOutside dX6_loadCart_4 (t_X7_isOutside hA) (Nat.le_of_ble_eq_true rfl) ⟨Nat.le_refl _, Nat.le_refl _⟩ (by decide) ⟨Nat.le_of_ble_eq_true rfl, Nat.le_of_ble_eq_true rfl⟩ ?_
  refine V_if_eq (tgt := 20) dX6_loadCart_7 (by decide) (fun h7 => ?_) (fun h7 => ?_)
  · replace h7 := bi_0.mp h7
    refine V_aload_n (i := 0) dX6_loadCart_20 rfl rfl ?_
    refine V_getf fl_X6_12 dX6_loadCart_21 (hp1 hA) rfl ?_
    refine V_getf fl_X6_68 dX6_loadCart_24 (hp5 hA (by omega)) rfl ?_
    refine V_if_eq (tgt := 47) dX6_loadCart_27 (by decide) (fun h27 => ?_) (fun h27 => ?_)
    · refine V_iload_n (i := 1) dX6_loadCart_47 rfl rfl ?_
      refine V_aload_n (i := 0) dX6_loadCart_48 rfl rfl ?_
      refine V_getf fl_X6_12 dX6_loadCart_49 (hp1 hA) rfl ?_
      refine V_getf fl_X6_71 dX6_loadCart_52 (hp5 hA (by omega)) rfl ?_
      refine V_icmp_le (tgt := 75) dX6_loadCart_55 (by decide) (fun h55 => ?_) (fun h55 => ?_)
      · replace h55 := Int32.not_lt.mpr h55
        refine V_aload_n (i := 0) dX6_loadCart_75 rfl rfl ?_
        refine V_getf fl_X6_12 dX6_loadCart_76 (hp1 hA) rfl ?_
        refine V_getf fl_X6_74 dX6_loadCart_79 (hp5 hA (by omega)) rfl ?_
        refine V_iload_n (i := 1) dX6_loadCart_82 rfl rfl ?_
        refine V_iadd dX6_loadCart_83 ?_
        refine V_bipush (v := 30) dX6_loadCart_84 (by decide) ?_
        refine V_icmp_le (tgt := 100) dX6_loadCart_86 (by decide) (fun h86 => ?_) (fun h86 => ?_)
        · replace h86 := Int32.not_lt.mpr h86
          refine V_aload_n (i := 0) dX6_loadCart_100 rfl rfl ?_
          refine V_getf fl_X6_12 dX6_loadCart_101 (hp1 hA) rfl ?_
          refine V_dup dX6_loadCart_104 rfl ?_
          refine V_getf fl_X6_71 dX6_loadCart_105 (hp5 hA (by omega)) rfl ?_
          refine V_iload_n (i := 1) dX6_loadCart_108 rfl rfl ?_
          refine V_isub dX6_loadCart_109 ?_
          refine VP_5_8 fl_X6_71 dX6_loadCart_110 hA (by omega) ?_
          refine V_aload_n (i := 0) dX6_loadCart_113 rfl rfl ?_
          refine V_getf fl_X6_12 dX6_loadCart_114 (hp1 hA) rfl ?_
          refine V_dup dX6_loadCart_117 rfl ?_
          refine V_getf fl_X6_74 dX6_loadCart_118 (hp5 hA (by omega)) rfl ?_
          refine V_iload_n (i := 1) dX6_loadCart_121 rfl rfl ?_
          refine V_iadd dX6_loadCart_122 ?_
          refine VP_5_7 fl_X6_74 dX6_loadCart_123 hA (by omega) ?_
          refine V_aload_n (i := 0) dX6_loadCart_126 rfl rfl ?_
          refine V_getf fl_X6_12 dX6_loadCart_127 (hp1 hA) rfl ?_
          refine V_getf fl_X6_74 dX6_loadCart_130 (hp5 hA (by omega)) rfl ?_
          refine V_iret dX6_loadCart_133 rfl (Nat.le_of_ble_eq_true rfl) (Nat.le_of_ble_eq_true rfl) ?_
          first
            | exact fno (u := σ.1 5 0) (c := 0) (by simp [S_load, *]) (by decide)
            | exact fok (x := (S_load_w (σ.1 5 0) n 4)) (u := (S_load_w (σ.1 5 0) n)) (by simp [S_load, *]) (by simp only [w3_row, row_row, row_at] <;> rfl) (by simp only [w3_row, row_row, row_at] <;> rfl)
        · replace h86 := Int32.not_le.mp h86
          refine V_aload_n (i := 0) dX6_loadCart_89 rfl rfl ?_
          refine V_getf fl_X6_21 dX6_loadCart_90 (hp1 hA) rfl ?_
          refine V_iconst (v := 2) dX6_loadCart_93 (by decide) ?_
          refine V_bipush (v := 30) dX6_loadCart_94 (by decide) ?_
          refine Cv1_2 (d := 1) cv_X6_29 dX6_loadCart_96 (t_X4_refuse hA) (hp2 hA) rfl rfl (Nat.le_of_ble_eq_true rfl) ⟨Nat.le_refl _, Nat.le_refl _⟩ (by decide) ⟨Nat.le_of_ble_eq_true rfl, Nat.le_of_ble_eq_true rfl⟩ ?_
          refine V_iret dX6_loadCart_99 rfl (Nat.le_of_ble_eq_true rfl) (Nat.le_of_ble_eq_true rfl) ?_
          first
            | exact fno (u := σ.1 5 0) (c := 0) (by simp [S_load, *]) (by decide)
            | exact fok (x := (S_load_w (σ.1 5 0) n 4)) (u := (S_load_w (σ.1 5 0) n)) (by simp [S_load, *]) (by simp only [w3_row, row_row, row_at] <;> rfl) (by simp only [w3_row, row_row, row_at] <;> rfl)
      · replace h55 := Int32.not_le.mp h55
        refine V_aload_n (i := 0) dX6_loadCart_58 rfl rfl ?_
        refine V_getf fl_X6_21 dX6_loadCart_59 (hp1 hA) rfl ?_
        refine V_bipush (v := 8) dX6_loadCart_62 (by decide) ?_
        refine V_aload_n (i := 0) dX6_loadCart_64 rfl rfl ?_
        refine V_getf fl_X6_12 dX6_loadCart_65 (hp1 hA) rfl ?_
        refine V_getf fl_X6_71 dX6_loadCart_68 (hp5 hA (by omega)) rfl ?_
        refine Cv1_2 (d := 1) cv_X6_29 dX6_loadCart_71 (t_X4_refuse hA) (hp2 hA) rfl rfl (Nat.le_of_ble_eq_true rfl) ⟨Nat.le_refl _, Nat.le_refl _⟩ (by decide) ⟨Nat.le_of_ble_eq_true rfl, Nat.le_of_ble_eq_true rfl⟩ ?_
        refine V_iret dX6_loadCart_74 rfl (Nat.le_of_ble_eq_true rfl) (Nat.le_of_ble_eq_true rfl) ?_
        first
          | exact fno (u := σ.1 5 0) (c := 0) (by simp [S_load, *]) (by decide)
          | exact fok (x := (S_load_w (σ.1 5 0) n 4)) (u := (S_load_w (σ.1 5 0) n)) (by simp [S_load, *]) (by simp only [w3_row, row_row, row_at] <;> rfl) (by simp only [w3_row, row_row, row_at] <;> rfl)
    · refine V_aload_n (i := 0) dX6_loadCart_30 rfl rfl ?_
      refine V_getf fl_X6_21 dX6_loadCart_31 (hp1 hA) rfl ?_
      refine V_bipush (v := 6) dX6_loadCart_34 (by decide) ?_
      refine V_aload_n (i := 0) dX6_loadCart_36 rfl rfl ?_
      refine V_getf fl_X6_12 dX6_loadCart_37 (hp1 hA) rfl ?_
      refine V_getf fl_X6_68 dX6_loadCart_40 (hp5 hA (by omega)) rfl ?_
      refine Cv1_2 (d := 1) cv_X6_29 dX6_loadCart_43 (t_X4_refuse hA) (hp2 hA) rfl rfl (Nat.le_of_ble_eq_true rfl) ⟨Nat.le_refl _, Nat.le_refl _⟩ (by decide) ⟨Nat.le_of_ble_eq_true rfl, Nat.le_of_ble_eq_true rfl⟩ ?_
      refine V_iret dX6_loadCart_46 rfl (Nat.le_of_ble_eq_true rfl) (Nat.le_of_ble_eq_true rfl) ?_
      first
        | exact fno (u := σ.1 5 0) (c := 0) (by simp [S_load, *]) (by decide)
        | exact fok (x := (S_load_w (σ.1 5 0) n 4)) (u := (S_load_w (σ.1 5 0) n)) (by simp [S_load, *]) (by simp only [w3_row, row_row, row_at] <;> rfl) (by simp only [w3_row, row_row, row_at] <;> rfl)
  · replace h7 := bi_1.mp h7
    refine V_aload_n (i := 0) dX6_loadCart_10 rfl rfl ?_
    refine V_getf fl_X6_21 dX6_loadCart_11 (hp1 hA) rfl ?_
    refine V_iconst (v := 1) dX6_loadCart_14 (by decide) ?_
    refine V_iconst (v := 0) dX6_loadCart_15 (by decide) ?_
    refine Cv1_2 (d := 1) cv_X6_29 dX6_loadCart_16 (t_X4_refuse hA) (hp2 hA) rfl rfl (Nat.le_of_ble_eq_true rfl) ⟨Nat.le_refl _, Nat.le_refl _⟩ (by decide) ⟨Nat.le_of_ble_eq_true rfl, Nat.le_of_ble_eq_true rfl⟩ ?_
    refine V_iret dX6_loadCart_19 rfl (Nat.le_of_ble_eq_true rfl) (Nat.le_of_ble_eq_true rfl) ?_
    first
      | exact fno (u := σ.1 5 0) (c := 0) (by simp [S_load, *]) (by decide)
      | exact fok (x := (S_load_w (σ.1 5 0) n 4)) (u := (S_load_w (σ.1 5 0) n)) (by simp [S_load, *]) (by simp only [w3_row, row_row, row_at] <;> rfl) (by simp only [w3_row, row_row, row_at] <;> rfl)

set_option maxHeartbeats 4000000 in
set_option maxRecDepth 100000 in
theorem t_X6_driveCart {D : va_G} {s0 : State} {l : Launch} {B : Nat} {A : AT} {σ : Sg} (hA : AOK B A) {nh : Nat} (h1 : σ.1 5 0 1 = nI nh) (hn : nh ≤ 8) {x : Int32} : Tri D s0 l yX6_driveCart cX6_driveCart 3 ((some .int)) 1 0 0 [.ref (A 1 0 0), .int x] (HP A σ) (fun r G' => r = some (.int (wA (S_drive (σ.1 5 0) nh x))) ∧ G' = HP A (wS σ (S_drive (σ.1 5 0) nh x))) noX := by
  refine Tri.ofV (own := RX6) (mn := "driveCart") (by decide +kernel) rfl rfl (Nat.le_of_ble_eq_true rfl) ?_
  refine V_iload_n (i := 1) dX6_driveCart_0 rfl rfl ?_
  refine V_iconst (v := 0) dX6_driveCart_1 (by decide) ?_
  refine V_aload_n (i := 0) dX6_driveCart_2 rfl rfl ?_
  refine V_getf fl_X6_12 dX6_driveCart_3 (hp1 hA) rfl ?_
  refine V_getf fl_X6_33 dX6_driveCart_6 (hp5 hA (by omega)) rfl ?_
  refine Cn1_3 (d := 1) cn_X6_25 st_X7_isOutside dX6_driveCart_9 (t_X7_isOutside hA) (Nat.le_of_ble_eq_true rfl) ⟨Nat.le_refl _, Nat.le_refl _⟩ (by decide) ⟨Nat.le_of_ble_eq_true rfl, Nat.le_of_ble_eq_true rfl⟩ ?_
  refine V_if_eq (tgt := 25) dX6_driveCart_12 (by decide) (fun h12 => ?_) (fun h12 => ?_)
  · replace h12 := bi_0.mp h12
    rw [h1] at h12
    refine V_iload_n (i := 1) dX6_driveCart_25 rfl rfl ?_
    refine V_aload_n (i := 0) dX6_driveCart_26 rfl rfl ?_
    refine V_getf fl_X6_12 dX6_driveCart_27 (hp1 hA) rfl ?_
    refine V_getf fl_X6_68 dX6_driveCart_30 (hp5 hA (by omega)) rfl ?_
    refine V_icmp_ne (tgt := 46) dX6_driveCart_33 (by decide) (fun h33 => ?_) (fun h33 => ?_)
    · refine V_aload_n (i := 0) dX6_driveCart_46 rfl rfl ?_
      refine V_getf fl_X6_12 dX6_driveCart_47 (hp1 hA) rfl ?_
      refine Cv1_0 (d := 1) cv_X6_77 dX6_driveCart_50 (t_X5_shoesLeft hA (by decide)) (hp5 hA (by omega)) rfl rfl (Nat.le_of_ble_eq_true rfl) ⟨Nat.le_refl _, Nat.le_refl _⟩ (by decide) ⟨Nat.le_of_ble_eq_true rfl, Nat.le_of_ble_eq_true rfl⟩ ?_
      refine V_istore_n (i := 2) dX6_driveCart_53 rfl (by decide) ?_
      refine V_iload_n (i := 1) dX6_driveCart_54 rfl rfl ?_
      refine V_aload_n (i := 0) dX6_driveCart_55 rfl rfl ?_
      refine V_getf fl_X6_12 dX6_driveCart_56 (hp1 hA) rfl ?_
      refine V_getf fl_X6_68 dX6_driveCart_59 (hp5 hA (by omega)) rfl ?_
      refine V_icmp_le (tgt := 80) dX6_driveCart_62 (by decide) (fun h62 => ?_) (fun h62 => ?_)
      · replace h62 := Int32.not_lt.mpr h62
        refine V_aload_n (i := 0) dX6_driveCart_80 rfl rfl ?_
        refine V_getf fl_X6_12 dX6_driveCart_81 (hp1 hA) rfl ?_
        refine V_iconst (v := 0) dX6_driveCart_84 (by decide) ?_
        refine V_iload_n (i := 1) dX6_driveCart_85 rfl rfl ?_
        refine V_aload_n (i := 0) dX6_driveCart_86 rfl rfl ?_
        refine V_getf fl_X6_12 dX6_driveCart_87 (hp1 hA) rfl ?_
        refine V_getf fl_X6_68 dX6_driveCart_90 (hp5 hA (by omega)) rfl ?_
        refine V_isub dX6_driveCart_93 ?_
        refine V_mmax cm_X6_81 dX6_driveCart_94 (Nat.le_of_ble_eq_true rfl) (Nat.le_of_ble_eq_true rfl) (Nat.le_of_ble_eq_true rfl) (Nat.le_of_ble_eq_true rfl) ?_
        refine Cv0_1 (d := 1) cv_X6_86 dX6_driveCart_97 (t_X5_goUphill hA (by decide)) (hp5 hA (by omega)) rfl rfl (Nat.le_of_ble_eq_true rfl) ⟨Nat.le_refl _, Nat.le_refl _⟩ (by decide) ⟨Nat.le_of_ble_eq_true rfl, Nat.le_of_ble_eq_true rfl⟩ ?_
        refine V_aload_n (i := 0) dX6_driveCart_100 rfl rfl ?_
        refine V_getf fl_X6_12 dX6_driveCart_101 (hp1 hA) rfl ?_
        refine V_iload_n (i := 1) dX6_driveCart_104 rfl rfl ?_
        refine VP_5_6 fl_X6_68 dX6_driveCart_105 hA (by omega) ?_
        refine V_aload_n (i := 0) dX6_driveCart_108 rfl rfl ?_
        refine V_getf fl_X6_12 dX6_driveCart_109 (hp1 hA) rfl ?_
        refine Cv1_0 (d := 1) cv_X6_77 dX6_driveCart_112 (t_X5_shoesLeft hA (by decide)) (hp5 hA (by omega)) rfl rfl (Nat.le_of_ble_eq_true rfl) ⟨Nat.le_refl _, Nat.le_refl _⟩ (by decide) ⟨Nat.le_of_ble_eq_true rfl, Nat.le_of_ble_eq_true rfl⟩ ?_
        refine V_iret dX6_driveCart_115 rfl (Nat.le_of_ble_eq_true rfl) (Nat.le_of_ble_eq_true rfl) ?_
        first
          | exact fno (u := σ.1 5 0) (c := 0) (by simp [S_drive, *]) (by decide)
          | exact fok (x := (S_shoes (S_drive_w (σ.1 5 0) x))) (u := (S_drive_w (σ.1 5 0) x)) (by simp [S_drive, *]) (by simp only [w3_row, row_row, row_at] <;> rfl) (by simp only [w3_row, row_row, row_at] <;> rfl)
      · replace h62 := Int32.not_le.mp h62
        refine V_iload_n (i := 2) dX6_driveCart_65 rfl rfl ?_
        refine V_iconst (v := 3) dX6_driveCart_66 (by decide) ?_
        refine V_icmp_ge (tgt := 80) dX6_driveCart_67 (by decide) (fun h67 => ?_) (fun h67 => ?_)
        · replace h67 := Int32.not_lt.mpr h67
          refine V_aload_n (i := 0) dX6_driveCart_80 rfl rfl ?_
          refine V_getf fl_X6_12 dX6_driveCart_81 (hp1 hA) rfl ?_
          refine V_iconst (v := 0) dX6_driveCart_84 (by decide) ?_
          refine V_iload_n (i := 1) dX6_driveCart_85 rfl rfl ?_
          refine V_aload_n (i := 0) dX6_driveCart_86 rfl rfl ?_
          refine V_getf fl_X6_12 dX6_driveCart_87 (hp1 hA) rfl ?_
          refine V_getf fl_X6_68 dX6_driveCart_90 (hp5 hA (by omega)) rfl ?_
          refine V_isub dX6_driveCart_93 ?_
          refine V_mmax cm_X6_81 dX6_driveCart_94 (Nat.le_of_ble_eq_true rfl) (Nat.le_of_ble_eq_true rfl) (Nat.le_of_ble_eq_true rfl) (Nat.le_of_ble_eq_true rfl) ?_
          refine Cv0_1 (d := 1) cv_X6_86 dX6_driveCart_97 (t_X5_goUphill hA (by decide)) (hp5 hA (by omega)) rfl rfl (Nat.le_of_ble_eq_true rfl) ⟨Nat.le_refl _, Nat.le_refl _⟩ (by decide) ⟨Nat.le_of_ble_eq_true rfl, Nat.le_of_ble_eq_true rfl⟩ ?_
          refine V_aload_n (i := 0) dX6_driveCart_100 rfl rfl ?_
          refine V_getf fl_X6_12 dX6_driveCart_101 (hp1 hA) rfl ?_
          refine V_iload_n (i := 1) dX6_driveCart_104 rfl rfl ?_
          refine VP_5_6 fl_X6_68 dX6_driveCart_105 hA (by omega) ?_
          refine V_aload_n (i := 0) dX6_driveCart_108 rfl rfl ?_
          refine V_getf fl_X6_12 dX6_driveCart_109 (hp1 hA) rfl ?_
          refine Cv1_0 (d := 1) cv_X6_77 dX6_driveCart_112 (t_X5_shoesLeft hA (by decide)) (hp5 hA (by omega)) rfl rfl (Nat.le_of_ble_eq_true rfl) ⟨Nat.le_refl _, Nat.le_refl _⟩ (by decide) ⟨Nat.le_of_ble_eq_true rfl, Nat.le_of_ble_eq_true rfl⟩ ?_
          refine V_iret dX6_driveCart_115 rfl (Nat.le_of_ble_eq_true rfl) (Nat.le_of_ble_eq_true rfl) ?_
          first
            | exact fno (u := σ.1 5 0) (c := 0) (by simp [S_drive, *]) (by decide)
            | exact fok (x := (S_shoes (S_drive_w (σ.1 5 0) x))) (u := (S_drive_w (σ.1 5 0) x)) (by simp [S_drive, *]) (by simp only [w3_row, row_row, row_at] <;> rfl) (by simp only [w3_row, row_row, row_at] <;> rfl)
        · replace h67 := Int32.not_le.mp h67
          refine V_aload_n (i := 0) dX6_driveCart_70 rfl rfl ?_
          refine V_getf fl_X6_21 dX6_driveCart_71 (hp1 hA) rfl ?_
          refine V_iconst (v := 5) dX6_driveCart_74 (by decide) ?_
          refine V_iload_n (i := 2) dX6_driveCart_75 rfl rfl ?_
          refine Cv1_2 (d := 1) cv_X6_29 dX6_driveCart_76 (t_X4_refuse hA) (hp2 hA) rfl rfl (Nat.le_of_ble_eq_true rfl) ⟨Nat.le_refl _, Nat.le_refl _⟩ (by decide) ⟨Nat.le_of_ble_eq_true rfl, Nat.le_of_ble_eq_true rfl⟩ ?_
          refine V_iret dX6_driveCart_79 rfl (Nat.le_of_ble_eq_true rfl) (Nat.le_of_ble_eq_true rfl) ?_
          first
            | exact fno (u := σ.1 5 0) (c := 0) (by simp [S_drive, *]) (by decide)
            | exact fok (x := (S_shoes (S_drive_w (σ.1 5 0) x))) (u := (S_drive_w (σ.1 5 0) x)) (by simp [S_drive, *]) (by simp only [w3_row, row_row, row_at] <;> rfl) (by simp only [w3_row, row_row, row_at] <;> rfl)
    · subst h33
      refine V_aload_n (i := 0) dX6_driveCart_36 rfl rfl ?_
      refine V_getf fl_X6_21 dX6_driveCart_37 (hp1 hA) rfl ?_
      refine V_iconst (v := 4) dX6_driveCart_40 (by decide) ?_
      refine V_iload_n (i := 1) dX6_driveCart_41 rfl rfl ?_
      refine Cv1_2 (d := 1) cv_X6_29 dX6_driveCart_42 (t_X4_refuse hA) (hp2 hA) rfl rfl (Nat.le_of_ble_eq_true rfl) ⟨Nat.le_refl _, Nat.le_refl _⟩ (by decide) ⟨Nat.le_of_ble_eq_true rfl, Nat.le_of_ble_eq_true rfl⟩ ?_
      refine V_iret dX6_driveCart_45 rfl (Nat.le_of_ble_eq_true rfl) (Nat.le_of_ble_eq_true rfl) ?_
      first
        | exact fno (u := σ.1 5 0) (c := 0) (by simp [S_drive, *]) (by decide)
        | exact fok (x := (S_shoes (S_drive_w (σ.1 5 0) x))) (u := (S_drive_w (σ.1 5 0) x)) (by simp [S_drive, *]) (by simp only [w3_row, row_row, row_at] <;> rfl) (by simp only [w3_row, row_row, row_at] <;> rfl)
  · replace h12 := bi_1.mp h12
    rw [h1] at h12
    refine V_aload_n (i := 0) dX6_driveCart_15 rfl rfl ?_
    refine V_getf fl_X6_21 dX6_driveCart_16 (hp1 hA) rfl ?_
    refine V_iconst (v := 3) dX6_driveCart_19 (by decide) ?_
    refine V_iload_n (i := 1) dX6_driveCart_20 rfl rfl ?_
    refine Cv1_2 (d := 1) cv_X6_29 dX6_driveCart_21 (t_X4_refuse hA) (hp2 hA) rfl rfl (Nat.le_of_ble_eq_true rfl) ⟨Nat.le_refl _, Nat.le_refl _⟩ (by decide) ⟨Nat.le_of_ble_eq_true rfl, Nat.le_of_ble_eq_true rfl⟩ ?_
    refine V_iret dX6_driveCart_24 rfl (Nat.le_of_ble_eq_true rfl) (Nat.le_of_ble_eq_true rfl) ?_
    first
      | exact fno (u := σ.1 5 0) (c := 0) (by simp [S_drive, *]) (by decide)
      | exact fok (x := (S_shoes (S_drive_w (σ.1 5 0) x))) (u := (S_drive_w (σ.1 5 0) x)) (by simp [S_drive, *]) (by simp only [w3_row, row_row, row_at] <;> rfl) (by simp only [w3_row, row_row, row_at] <;> rfl)

set_option maxHeartbeats 4000000 in
set_option maxRecDepth 100000 in
theorem t_X6_buyBones {D : va_G} {s0 : State} {l : Launch} {B : Nat} {A : AT} {σ : Sg} (hA : AOK B A) {n : Int32} : Tri D s0 l yX6_buyBones cX6_buyBones 2 ((some .int)) 1 0 0 [.ref (A 1 0 0), .int n] (HP A σ) (fun r G' => r = some (.int (wA (S_bones (σ.1 5 0) n))) ∧ G' = HP A (wS σ (S_bones (σ.1 5 0) n))) noX := by
  refine Tri.ofV (own := RX6) (mn := "buyBones") (by decide +kernel) rfl rfl (Nat.le_of_ble_eq_true rfl) ?_
  refine V_iload_n (i := 1) dX6_buyBones_0 rfl rfl ?_
  refine V_iconst (v := 1) dX6_buyBones_1 (by decide) ?_
  refine V_bipush (v := 9) dX6_buyBones_2 (by decide) ?_
  refine Cn1_3 (d := 1) cn_X6_25 st_X7_isOutside dX6_buyBones_4 (t_X7_isOutside hA) (Nat.le_of_ble_eq_true rfl) ⟨Nat.le_refl _, Nat.le_refl _⟩ (by decide) ⟨Nat.le_of_ble_eq_true rfl, Nat.le_of_ble_eq_true rfl⟩ ?_
  refine V_if_eq (tgt := 20) dX6_buyBones_7 (by decide) (fun h7 => ?_) (fun h7 => ?_)
  · replace h7 := bi_0.mp h7
    refine V_iload_n (i := 1) dX6_buyBones_20 rfl rfl ?_
    refine V_aload_n (i := 0) dX6_buyBones_21 rfl rfl ?_
    refine V_getf fl_X6_12 dX6_buyBones_22 (hp1 hA) rfl ?_
    refine V_getf fl_X6_138 dX6_buyBones_25 (hp5 hA (by omega)) rfl ?_
    refine V_icmp_le (tgt := 50) dX6_buyBones_28 (by decide) (fun h28 => ?_) (fun h28 => ?_)
    · replace h28 := Int32.not_lt.mpr h28
      refine V_aload_n (i := 0) dX6_buyBones_50 rfl rfl ?_
      refine V_getf fl_X6_12 dX6_buyBones_51 (hp1 hA) rfl ?_
      refine V_dup dX6_buyBones_54 rfl ?_
      refine V_getf fl_X6_138 dX6_buyBones_55 (hp5 hA (by omega)) rfl ?_
      refine V_iload_n (i := 1) dX6_buyBones_58 rfl rfl ?_
      refine V_isub dX6_buyBones_59 ?_
      refine VP_5_9 fl_X6_138 dX6_buyBones_60 hA (by omega) ?_
      refine V_aload_n (i := 0) dX6_buyBones_63 rfl rfl ?_
      refine V_getf fl_X6_12 dX6_buyBones_64 (hp1 hA) rfl ?_
      refine V_dup dX6_buyBones_67 rfl ?_
      refine V_getf fl_X6_135 dX6_buyBones_68 (hp5 hA (by omega)) rfl ?_
      refine V_iload_n (i := 1) dX6_buyBones_71 rfl rfl ?_
      refine V_iadd dX6_buyBones_72 ?_
      refine VP_5_10 fl_X6_135 dX6_buyBones_73 hA (by omega) ?_
      refine V_aload_n (i := 0) dX6_buyBones_76 rfl rfl ?_
      refine V_getf fl_X6_12 dX6_buyBones_77 (hp1 hA) rfl ?_
      refine V_getf fl_X6_135 dX6_buyBones_80 (hp5 hA (by omega)) rfl ?_
      refine V_iret dX6_buyBones_83 rfl (Nat.le_of_ble_eq_true rfl) (Nat.le_of_ble_eq_true rfl) ?_
      first
        | exact fno (u := σ.1 5 0) (c := 0) (by simp [S_bones, *]) (by decide)
        | exact fok (x := (S_bones_w (σ.1 5 0) n 8)) (u := (S_bones_w (σ.1 5 0) n)) (by simp [S_bones, *]) (by simp only [w3_row, row_row, row_at] <;> rfl) (by simp only [w3_row, row_row, row_at] <;> rfl)
    · replace h28 := Int32.not_le.mp h28
      refine V_aload_n (i := 0) dX6_buyBones_31 rfl rfl ?_
      refine V_getf fl_X6_21 dX6_buyBones_32 (hp1 hA) rfl ?_
      refine V_bipush (v := 16) dX6_buyBones_35 (by decide) ?_
      refine V_iload_n (i := 1) dX6_buyBones_37 rfl rfl ?_
      refine V_aload_n (i := 0) dX6_buyBones_38 rfl rfl ?_
      refine V_getf fl_X6_12 dX6_buyBones_39 (hp1 hA) rfl ?_
      refine V_getf fl_X6_138 dX6_buyBones_42 (hp5 hA (by omega)) rfl ?_
      refine V_isub dX6_buyBones_45 ?_
      refine Cv1_2 (d := 1) cv_X6_29 dX6_buyBones_46 (t_X4_refuse hA) (hp2 hA) rfl rfl (Nat.le_of_ble_eq_true rfl) ⟨Nat.le_refl _, Nat.le_refl _⟩ (by decide) ⟨Nat.le_of_ble_eq_true rfl, Nat.le_of_ble_eq_true rfl⟩ ?_
      refine V_iret dX6_buyBones_49 rfl (Nat.le_of_ble_eq_true rfl) (Nat.le_of_ble_eq_true rfl) ?_
      first
        | exact fno (u := σ.1 5 0) (c := 0) (by simp [S_bones, *]) (by decide)
        | exact fok (x := (S_bones_w (σ.1 5 0) n 8)) (u := (S_bones_w (σ.1 5 0) n)) (by simp [S_bones, *]) (by simp only [w3_row, row_row, row_at] <;> rfl) (by simp only [w3_row, row_row, row_at] <;> rfl)
  · replace h7 := bi_1.mp h7
    refine V_aload_n (i := 0) dX6_buyBones_10 rfl rfl ?_
    refine V_getf fl_X6_21 dX6_buyBones_11 (hp1 hA) rfl ?_
    refine V_iconst (v := 1) dX6_buyBones_14 (by decide) ?_
    refine V_iconst (v := 0) dX6_buyBones_15 (by decide) ?_
    refine Cv1_2 (d := 1) cv_X6_29 dX6_buyBones_16 (t_X4_refuse hA) (hp2 hA) rfl rfl (Nat.le_of_ble_eq_true rfl) ⟨Nat.le_refl _, Nat.le_refl _⟩ (by decide) ⟨Nat.le_of_ble_eq_true rfl, Nat.le_of_ble_eq_true rfl⟩ ?_
    refine V_iret dX6_buyBones_19 rfl (Nat.le_of_ble_eq_true rfl) (Nat.le_of_ble_eq_true rfl) ?_
    first
      | exact fno (u := σ.1 5 0) (c := 0) (by simp [S_bones, *]) (by decide)
      | exact fok (x := (S_bones_w (σ.1 5 0) n 8)) (u := (S_bones_w (σ.1 5 0) n)) (by simp [S_bones, *]) (by simp only [w3_row, row_row, row_at] <;> rfl) (by simp only [w3_row, row_row, row_at] <;> rfl)

set_option maxHeartbeats 4000000 in
set_option maxRecDepth 100000 in
theorem t_X6_takePay {D : va_G} {s0 : State} {l : Launch} {B : Nat} {A : AT} {σ : Sg} (hA : AOK B A) {nh : Nat} (h1 : σ.1 5 0 1 = nI nh) (hn : nh ≤ 8) {x n : Int32} : Tri D s0 l yX6_takePay cX6_takePay 4 ((some .int)) 2 0 0 [.ref (A 1 0 0), .int x, .int n] (HP A σ) (fun r G' => r = some (.int (wA (S_pay (σ.1 5 0) nh x n))) ∧ G' = HP A (wS σ (S_pay (σ.1 5 0) nh x n))) noX := by
  refine Tri.ofV (own := RX6) (mn := "takePay") (by decide +kernel) rfl rfl (Nat.le_of_ble_eq_true rfl) ?_
  by_cases ho : ob x 0 (nI nh - 1) = true
  ·
    refine V_aload_n (i := 0) dX6_takePay_0 rfl rfl ?_
    refine V_getf fl_X6_12 dX6_takePay_1 (hp1 hA) rfl ?_
    refine V_iload_n (i := 1) dX6_takePay_4 rfl rfl ?_
    refine Cv1_1 (d := 2) cv_X6_49 dX6_takePay_5 (t_X5_houseAt_n hA (by decide) h1 hn ho) (hp5 hA (by omega)) rfl rfl (Nat.le_of_ble_eq_true rfl) ⟨Nat.le_refl _, Nat.le_refl _⟩ (by decide) ⟨Nat.le_of_ble_eq_true rfl, Nat.le_of_ble_eq_true rfl⟩ ?_
    refine V_astore_nN (i := 3) dX6_takePay_8 rfl (by decide) ?_
    refine V_aload_nN (i := 3) dX6_takePay_9 rfl rfl ?_
    refine V_ifnonnullN dX6_takePay_10 ?_
    refine V_aload_n (i := 0) dX6_takePay_13 rfl rfl ?_
    refine V_getf fl_X6_21 dX6_takePay_14 (hp1 hA) rfl ?_
    refine V_iconst (v := 3) dX6_takePay_17 (by decide) ?_
    refine V_iload_n (i := 1) dX6_takePay_18 rfl rfl ?_
    refine Cv1_2 (d := 2) cv_X6_29 dX6_takePay_19 (t_X4_refuse hA) (hp2 hA) rfl rfl (Nat.le_of_ble_eq_true rfl) ⟨Nat.le_refl _, Nat.le_refl _⟩ (by decide) ⟨Nat.le_of_ble_eq_true rfl, Nat.le_of_ble_eq_true rfl⟩ ?_
    refine V_iret dX6_takePay_22 rfl (Nat.le_of_ble_eq_true rfl) (Nat.le_of_ble_eq_true rfl) ?_
    first
      | exact fno (u := σ.1 5 0) (c := 0) (by simp [S_pay, *]) (by decide)
      | exact fok (x := (S_pay_w (σ.1 5 0) j n (hx j 4))) (u := (S_pay_w (σ.1 5 0) j n)) (by simp [S_pay, *]) (by simp only [w3_row, row_row, row_at] <;> rfl) (by simp only [w3_row, row_row, row_at] <;> rfl)
  · obtain ⟨j, hj, rfl⟩ := ob_ex (by omega) (Bool.eq_false_iff.mpr ho)
    have hc := nI_clamp (n := j) (by omega)
    refine V_aload_n (i := 0) dX6_takePay_0 rfl rfl ?_
    refine V_getf fl_X6_12 dX6_takePay_1 (hp1 hA) rfl ?_
    refine V_iload_n (i := 1) dX6_takePay_4 rfl rfl ?_
    refine Cv1_1 (d := 2) cv_X6_49 dX6_takePay_5 (t_X5_houseAt_s hA (by decide) h1 hn hj) (hp5 hA (by omega)) rfl rfl (Nat.le_of_ble_eq_true rfl) ⟨Nat.le_refl _, Nat.le_refl _⟩ (by decide) ⟨Nat.le_of_ble_eq_true rfl, Nat.le_of_ble_eq_true rfl⟩ ?_
    refine V_astore_n (i := 3) dX6_takePay_8 rfl (by decide) ?_
    refine V_aload_n (i := 3) dX6_takePay_9 rfl rfl ?_
    refine V_ifnonnull (tgt := 23) dX6_takePay_10 (by decide) ?_
    refine V_iload_n (i := 2) dX6_takePay_23 rfl rfl ?_
    refine V_iconst (v := 1) dX6_takePay_24 (by decide) ?_
    refine V_bipush (v := 99) dX6_takePay_25 (by decide) ?_
    refine Cn1_3 (d := 2) cn_X6_25 st_X7_isOutside dX6_takePay_27 (t_X7_isOutside hA) (Nat.le_of_ble_eq_true rfl) ⟨Nat.le_refl _, Nat.le_refl _⟩ (by decide) ⟨Nat.le_of_ble_eq_true rfl, Nat.le_of_ble_eq_true rfl⟩ ?_
    refine V_if_eq (tgt := 43) dX6_takePay_30 (by decide) (fun h30 => ?_) (fun h30 => ?_)
    · replace h30 := bi_0.mp h30
      refine V_aload_n (i := 3) dX6_takePay_43 rfl rfl ?_
      refine V_getf fl_X6_116 dX6_takePay_44 (hp9 hA (by omega) (by omega)) rfl ?_
      refine V_iload_n (i := 2) dX6_takePay_47 rfl rfl ?_
      refine V_icmp_ge (tgt := 65) dX6_takePay_48 (by decide) (fun h48 => ?_) (fun h48 => ?_)
      · replace h48 := Int32.not_lt.mpr h48
        refine V_aload_n (i := 3) dX6_takePay_65 rfl rfl ?_
        refine V_dup dX6_takePay_66 rfl ?_
        refine V_getf fl_X6_116 dX6_takePay_67 (hp9 hA (by omega) (by omega)) rfl ?_
        refine V_iload_n (i := 2) dX6_takePay_70 rfl rfl ?_
        refine V_isub dX6_takePay_71 ?_
        refine VP_9_4 fl_X6_116 dX6_takePay_72 hA (by omega) (by omega) ?_
        refine V_aload_n (i := 0) dX6_takePay_75 rfl rfl ?_
        refine V_getf fl_X6_12 dX6_takePay_76 (hp1 hA) rfl ?_
        refine V_dup dX6_takePay_79 rfl ?_
        refine V_getf fl_X6_138 dX6_takePay_80 (hp5 hA (by omega)) rfl ?_
        refine V_iload_n (i := 2) dX6_takePay_83 rfl rfl ?_
        refine V_iadd dX6_takePay_84 ?_
        refine VP_5_9 fl_X6_138 dX6_takePay_85 hA (by omega) ?_
        refine V_aload_n (i := 0) dX6_takePay_88 rfl rfl ?_
        refine V_getf fl_X6_12 dX6_takePay_89 (hp1 hA) rfl ?_
        refine V_dup dX6_takePay_92 rfl ?_
        refine V_getf fl_X6_141 dX6_takePay_93 (hp5 hA (by omega)) rfl ?_
        refine V_iload_n (i := 2) dX6_takePay_96 rfl rfl ?_
        refine V_iadd dX6_takePay_97 ?_
        refine VP_5_11 fl_X6_141 dX6_takePay_98 hA (by omega) ?_
        refine V_aload_n (i := 3) dX6_takePay_101 rfl rfl ?_
        refine V_getf fl_X6_116 dX6_takePay_102 (hp9 hA (by omega) (by omega)) rfl ?_
        refine V_iret dX6_takePay_105 rfl (Nat.le_of_ble_eq_true rfl) (Nat.le_of_ble_eq_true rfl) ?_
        first
          | exact fno (u := σ.1 5 0) (c := 0) (by simp [S_pay, *]) (by decide)
          | exact fok (x := (S_pay_w (σ.1 5 0) j n (hx j 4))) (u := (S_pay_w (σ.1 5 0) j n)) (by simp [S_pay, *]) (by simp only [w3_row, row_row, row_at] <;> rfl) (by simp only [w3_row, row_row, row_at] <;> rfl)
      · replace h48 := Int32.not_le.mp h48
        refine V_aload_n (i := 0) dX6_takePay_51 rfl rfl ?_
        refine V_getf fl_X6_21 dX6_takePay_52 (hp1 hA) rfl ?_
        refine V_bipush (v := 17) dX6_takePay_55 (by decide) ?_
        refine V_aload_n (i := 3) dX6_takePay_57 rfl rfl ?_
        refine V_getf fl_X6_116 dX6_takePay_58 (hp9 hA (by omega) (by omega)) rfl ?_
        refine Cv1_2 (d := 2) cv_X6_29 dX6_takePay_61 (t_X4_refuse hA) (hp2 hA) rfl rfl (Nat.le_of_ble_eq_true rfl) ⟨Nat.le_refl _, Nat.le_refl _⟩ (by decide) ⟨Nat.le_of_ble_eq_true rfl, Nat.le_of_ble_eq_true rfl⟩ ?_
        refine V_iret dX6_takePay_64 rfl (Nat.le_of_ble_eq_true rfl) (Nat.le_of_ble_eq_true rfl) ?_
        first
          | exact fno (u := σ.1 5 0) (c := 0) (by simp [S_pay, *]) (by decide)
          | exact fok (x := (S_pay_w (σ.1 5 0) j n (hx j 4))) (u := (S_pay_w (σ.1 5 0) j n)) (by simp [S_pay, *]) (by simp only [w3_row, row_row, row_at] <;> rfl) (by simp only [w3_row, row_row, row_at] <;> rfl)
    · replace h30 := bi_1.mp h30
      refine V_aload_n (i := 0) dX6_takePay_33 rfl rfl ?_
      refine V_getf fl_X6_21 dX6_takePay_34 (hp1 hA) rfl ?_
      refine V_iconst (v := 1) dX6_takePay_37 (by decide) ?_
      refine V_iconst (v := 0) dX6_takePay_38 (by decide) ?_
      refine Cv1_2 (d := 2) cv_X6_29 dX6_takePay_39 (t_X4_refuse hA) (hp2 hA) rfl rfl (Nat.le_of_ble_eq_true rfl) ⟨Nat.le_refl _, Nat.le_refl _⟩ (by decide) ⟨Nat.le_of_ble_eq_true rfl, Nat.le_of_ble_eq_true rfl⟩ ?_
      refine V_iret dX6_takePay_42 rfl (Nat.le_of_ble_eq_true rfl) (Nat.le_of_ble_eq_true rfl) ?_
      first
        | exact fno (u := σ.1 5 0) (c := 0) (by simp [S_pay, *]) (by decide)
        | exact fok (x := (S_pay_w (σ.1 5 0) j n (hx j 4))) (u := (S_pay_w (σ.1 5 0) j n)) (by simp [S_pay, *]) (by simp only [w3_row, row_row, row_at] <;> rfl) (by simp only [w3_row, row_row, row_at] <;> rfl)

set_option maxHeartbeats 4000000 in
set_option maxRecDepth 100000 in
theorem t_X6_shoeHorse {D : va_G} {s0 : State} {l : Launch} {B : Nat} {A : AT} {σ : Sg} (hA : AOK B A) {x : Int32} : Tri D s0 l yX6_shoeHorse cX6_shoeHorse 3 ((some .int)) 1 0 0 [.ref (A 1 0 0), .int x] (HP A σ) (fun r G' => r = some (.int (wA (S_shoe (σ.1 5 0) x))) ∧ G' = HP A (wS σ (S_shoe (σ.1 5 0) x))) noX := by
  refine Tri.ofV (own := RX6) (mn := "shoeHorse") (by decide +kernel) rfl rfl (Nat.le_of_ble_eq_true rfl) ?_
  refine V_iload_n (i := 1) dX6_shoeHorse_0 rfl rfl ?_
  refine V_iconst (v := 0) dX6_shoeHorse_1 (by decide) ?_
  refine V_iconst (v := 3) dX6_shoeHorse_2 (by decide) ?_
  refine Cn1_3 (d := 1) cn_X6_25 st_X7_isOutside dX6_shoeHorse_3 (t_X7_isOutside hA) (Nat.le_of_ble_eq_true rfl) ⟨Nat.le_refl _, Nat.le_refl _⟩ (by decide) ⟨Nat.le_of_ble_eq_true rfl, Nat.le_of_ble_eq_true rfl⟩ ?_
  refine V_if_eq (tgt := 19) dX6_shoeHorse_6 (by decide) (fun h6 => ?_) (fun h6 => ?_)
  · replace h6 := bi_0.mp h6
    obtain ⟨j, -, hj, rfl⟩ := ob_ex2 (a := 0) (b := 3) (by decide) (by decide) h6
    have hc := nI_clamp (n := j) (by omega)
    refine V_aload_n (i := 0) dX6_shoeHorse_19 rfl rfl ?_
    refine V_getf fl_X6_12 dX6_shoeHorse_20 (hp1 hA) rfl ?_
    refine V_getf fl_X6_68 dX6_shoeHorse_23 (hp5 hA (by omega)) rfl ?_
    refine V_if_eq (tgt := 46) dX6_shoeHorse_26 (by decide) (fun h26 => ?_) (fun h26 => ?_)
    · refine V_aload_n (i := 0) dX6_shoeHorse_46 rfl rfl ?_
      refine V_getf fl_X6_12 dX6_shoeHorse_47 (hp1 hA) rfl ?_
      refine V_getf fl_X6_144 dX6_shoeHorse_50 (hp5 hA (by omega)) rfl ?_
      refine V_iload_n (i := 1) dX6_shoeHorse_53 rfl rfl ?_
      refine V_iald9 dX6_shoeHorse_54 (hp8 hA (by decide)) rfl (by omega) (by decide) (arn_at (by omega)) ?_
      refine V_istore_n (i := 2) dX6_shoeHorse_55 rfl (by decide) ?_
      refine V_iload_n (i := 2) dX6_shoeHorse_56 rfl rfl ?_
      refine V_if_ne (tgt := 71) dX6_shoeHorse_57 (by decide) (fun h57 => ?_) (fun h57 => ?_)
      · refine V_aload_n (i := 0) dX6_shoeHorse_71 rfl rfl ?_
        refine V_getf fl_X6_12 dX6_shoeHorse_72 (hp1 hA) rfl ?_
        refine V_getf fl_X6_138 dX6_shoeHorse_75 (hp5 hA (by omega)) rfl ?_
        refine V_iconst (v := 4) dX6_shoeHorse_78 (by decide) ?_
        refine V_icmp_ge (tgt := 101) dX6_shoeHorse_79 (by decide) (fun h79 => ?_) (fun h79 => ?_)
        · replace h79 := Int32.not_lt.mpr h79
          refine V_aload_n (i := 0) dX6_shoeHorse_101 rfl rfl ?_
          refine V_getf fl_X6_12 dX6_shoeHorse_102 (hp1 hA) rfl ?_
          refine V_dup dX6_shoeHorse_105 rfl ?_
          refine V_getf fl_X6_138 dX6_shoeHorse_106 (hp5 hA (by omega)) rfl ?_
          refine V_iconst (v := 4) dX6_shoeHorse_109 (by decide) ?_
          refine V_isub dX6_shoeHorse_110 ?_
          refine VP_5_9 fl_X6_138 dX6_shoeHorse_111 hA (by omega) ?_
          refine V_aload_n (i := 0) dX6_shoeHorse_114 rfl rfl ?_
          refine V_getf fl_X6_12 dX6_shoeHorse_115 (hp1 hA) rfl ?_
          refine V_getf fl_X6_144 dX6_shoeHorse_118 (hp5 hA (by omega)) rfl ?_
          refine V_iload_n (i := 1) dX6_shoeHorse_121 rfl rfl ?_
          refine V_iconst (v := 0) dX6_shoeHorse_122 (by decide) ?_
          refine VA_8 dX6_shoeHorse_123 hA (by omega) rfl (by omega) ?_
          refine V_iload_n (i := 2) dX6_shoeHorse_124 rfl rfl ?_
          refine V_iret dX6_shoeHorse_125 rfl (Nat.le_of_ble_eq_true rfl) (Nat.le_of_ble_eq_true rfl) ?_
          first
            | exact fno (u := σ.1 5 0) (c := 0) (by simp [S_shoe, *]) (by decide)
            | exact fok (x := ((σ.1 5 0) (10 + j))) (u := (S_shoe_w (σ.1 5 0) j)) (by simp [S_shoe, *]) rfl (by simp only [w3_row, row_row, row_at] <;> rfl)
        · replace h79 := Int32.not_le.mp h79
          refine V_aload_n (i := 0) dX6_shoeHorse_82 rfl rfl ?_
          refine V_getf fl_X6_21 dX6_shoeHorse_83 (hp1 hA) rfl ?_
          refine V_bipush (v := 16) dX6_shoeHorse_86 (by decide) ?_
          refine V_iconst (v := 4) dX6_shoeHorse_88 (by decide) ?_
          refine V_aload_n (i := 0) dX6_shoeHorse_89 rfl rfl ?_
          refine V_getf fl_X6_12 dX6_shoeHorse_90 (hp1 hA) rfl ?_
          refine V_getf fl_X6_138 dX6_shoeHorse_93 (hp5 hA (by omega)) rfl ?_
          refine V_isub dX6_shoeHorse_96 ?_
          refine Cv1_2 (d := 1) cv_X6_29 dX6_shoeHorse_97 (t_X4_refuse hA) (hp2 hA) rfl rfl (Nat.le_of_ble_eq_true rfl) ⟨Nat.le_refl _, Nat.le_refl _⟩ (by decide) ⟨Nat.le_of_ble_eq_true rfl, Nat.le_of_ble_eq_true rfl⟩ ?_
          refine V_iret dX6_shoeHorse_100 rfl (Nat.le_of_ble_eq_true rfl) (Nat.le_of_ble_eq_true rfl) ?_
          first
            | exact fno (u := σ.1 5 0) (c := 0) (by simp [S_shoe, *]) (by decide)
            | exact fok (x := ((σ.1 5 0) (10 + j))) (u := (S_shoe_w (σ.1 5 0) j)) (by simp [S_shoe, *]) rfl (by simp only [w3_row, row_row, row_at] <;> rfl)
      · refine V_aload_n (i := 0) dX6_shoeHorse_60 rfl rfl ?_
        refine V_getf fl_X6_21 dX6_shoeHorse_61 (hp1 hA) rfl ?_
        refine V_bipush (v := 19) dX6_shoeHorse_64 (by decide) ?_
        refine V_iload_n (i := 1) dX6_shoeHorse_66 rfl rfl ?_
        refine Cv1_2 (d := 1) cv_X6_29 dX6_shoeHorse_67 (t_X4_refuse hA) (hp2 hA) rfl rfl (Nat.le_of_ble_eq_true rfl) ⟨Nat.le_refl _, Nat.le_refl _⟩ (by decide) ⟨Nat.le_of_ble_eq_true rfl, Nat.le_of_ble_eq_true rfl⟩ ?_
        refine V_iret dX6_shoeHorse_70 rfl (Nat.le_of_ble_eq_true rfl) (Nat.le_of_ble_eq_true rfl) ?_
        first
          | exact fno (u := σ.1 5 0) (c := 0) (by simp [S_shoe, *]) (by decide)
          | exact fok (x := ((σ.1 5 0) (10 + j))) (u := (S_shoe_w (σ.1 5 0) j)) (by simp [S_shoe, *]) rfl (by simp only [w3_row, row_row, row_at] <;> rfl)
    · refine V_aload_n (i := 0) dX6_shoeHorse_29 rfl rfl ?_
      refine V_getf fl_X6_21 dX6_shoeHorse_30 (hp1 hA) rfl ?_
      refine V_bipush (v := 6) dX6_shoeHorse_33 (by decide) ?_
      refine V_aload_n (i := 0) dX6_shoeHorse_35 rfl rfl ?_
      refine V_getf fl_X6_12 dX6_shoeHorse_36 (hp1 hA) rfl ?_
      refine V_getf fl_X6_68 dX6_shoeHorse_39 (hp5 hA (by omega)) rfl ?_
      refine Cv1_2 (d := 1) cv_X6_29 dX6_shoeHorse_42 (t_X4_refuse hA) (hp2 hA) rfl rfl (Nat.le_of_ble_eq_true rfl) ⟨Nat.le_refl _, Nat.le_refl _⟩ (by decide) ⟨Nat.le_of_ble_eq_true rfl, Nat.le_of_ble_eq_true rfl⟩ ?_
      refine V_iret dX6_shoeHorse_45 rfl (Nat.le_of_ble_eq_true rfl) (Nat.le_of_ble_eq_true rfl) ?_
      first
        | exact fno (u := σ.1 5 0) (c := 0) (by simp [S_shoe, *]) (by decide)
        | exact fok (x := ((σ.1 5 0) (10 + j))) (u := (S_shoe_w (σ.1 5 0) j)) (by simp [S_shoe, *]) rfl (by simp only [w3_row, row_row, row_at] <;> rfl)
  · replace h6 := bi_1.mp h6
    refine V_aload_n (i := 0) dX6_shoeHorse_9 rfl rfl ?_
    refine V_getf fl_X6_21 dX6_shoeHorse_10 (hp1 hA) rfl ?_
    refine V_iconst (v := 3) dX6_shoeHorse_13 (by decide) ?_
    refine V_iload_n (i := 1) dX6_shoeHorse_14 rfl rfl ?_
    refine Cv1_2 (d := 1) cv_X6_29 dX6_shoeHorse_15 (t_X4_refuse hA) (hp2 hA) rfl rfl (Nat.le_of_ble_eq_true rfl) ⟨Nat.le_refl _, Nat.le_refl _⟩ (by decide) ⟨Nat.le_of_ble_eq_true rfl, Nat.le_of_ble_eq_true rfl⟩ ?_
    refine V_iret dX6_shoeHorse_18 rfl (Nat.le_of_ble_eq_true rfl) (Nat.le_of_ble_eq_true rfl) ?_
    first
      | exact fno (u := σ.1 5 0) (c := 0) (by simp [S_shoe, *]) (by decide)
      | exact fok (x := ((σ.1 5 0) (10 + j))) (u := (S_shoe_w (σ.1 5 0) j)) (by simp [S_shoe, *]) rfl (by simp only [w3_row, row_row, row_at] <;> rfl)

theorem hb_y {A : AT} {σ : Sg} {S : Int32 × Int32} {a b : Int32} (e : S = (a, b)) (h : ¬ a = 0) : some (Value.int 1) = some (.int (bi (decide (¬ S.1 = 0)))) ∧ HP A (rfz σ a b) = HP A (if S.1 = 0 then σ else rfz σ S.1 S.2) := by
  subst e
  exact ⟨by rw [decide_eq_true h]; rfl, by rw [if_neg h]⟩
theorem hb_n {A : AT} {σ : Sg} {S : Int32 × Int32} (e : S = (0, 0)) : some (Value.int 0) = some (.int (bi (decide (¬ S.1 = 0)))) ∧ HP A σ = HP A (if S.1 = 0 then σ else rfz σ S.1 S.2) := by
  subst e
  exact ⟨rfl, rfl⟩

set_option maxHeartbeats 4000000 in
set_option maxRecDepth 100000 in
theorem t_X6_isRefusedByHouse {D : va_G} {s0 : State} {l : Launch} {B : Nat} {A : AT} {σ : Sg} (hA : AOK B A) {h : Nat} {n : Int32} (hh : h < 8) : Tri D s0 l yX6_isRefusedByHouse cX6_isRefusedByHouse 4 ((some .boolean)) 1 0 0 [.ref (A 1 0 0), .ref (A 9 0 h), .int n] (HP A σ) (fun r G' => r = some (.int (bi (decide (¬ (S_hby (σ.1 5 0) h n).1 = 0)))) ∧ G' = HP A (if (S_hby (σ.1 5 0) h n).1 = 0 then σ else rfz σ (S_hby (σ.1 5 0) h n).1 (S_hby (σ.1 5 0) h n).2)) noX := by
  refine Tri.ofV (own := RX6) (mn := "isRefusedByHouse") (by decide +kernel) rfl rfl (Nat.le_of_ble_eq_true rfl) ?_
  refine V_iconst (v := 0) dX6_isRefusedByHouse_0 (by decide) ?_
  refine V_istore_n (i := 3) dX6_isRefusedByHouse_1 rfl (by decide) ?_
  refine V_iload_n (i := 2) dX6_isRefusedByHouse_2 rfl rfl ?_
  refine V_aload_n (i := 0) dX6_isRefusedByHouse_3 rfl rfl ?_
  refine V_getf fl_X6_12 dX6_isRefusedByHouse_4 (hp1 hA) rfl ?_
  refine V_getf fl_X6_74 dX6_isRefusedByHouse_7 (hp5 hA (by omega)) rfl ?_
  refine V_icmp_le (tgt := 33) dX6_isRefusedByHouse_10 (by decide) (fun h10 => ?_) (fun h10 => ?_)
  · replace h10 := Int32.not_lt.mpr h10
    refine V_iload_n (i := 2) dX6_isRefusedByHouse_33 rfl rfl ?_
    refine V_aload_n (i := 1) dX6_isRefusedByHouse_34 rfl rfl ?_
    refine V_getf fl_X6_113 dX6_isRefusedByHouse_35 (hp9 hA (by omega) (by omega)) rfl ?_
    refine V_icmp_le (tgt := 58) dX6_isRefusedByHouse_38 (by decide) (fun h38 => ?_) (fun h38 => ?_)
    · replace h38 := Int32.not_lt.mpr h38
      refine V_aload_n (i := 1) dX6_isRefusedByHouse_58 rfl rfl ?_
      refine V_getf fl_X6_116 dX6_isRefusedByHouse_59 (hp9 hA (by omega) (by omega)) rfl ?_
      refine V_bipush (v := 12) dX6_isRefusedByHouse_62 (by decide) ?_
      refine V_icmp_le (tgt := 84) dX6_isRefusedByHouse_64 (by decide) (fun h64 => ?_) (fun h64 => ?_)
      · replace h64 := Int32.not_lt.mpr h64
        refine V_aload_n (i := 1) dX6_isRefusedByHouse_84 rfl rfl ?_
        refine V_getf fl_X6_119 dX6_isRefusedByHouse_85 (hp9 hA (by omega) (by omega)) rfl ?_
        refine V_bipush (v := 8) dX6_isRefusedByHouse_88 (by decide) ?_
        refine V_icmp_le (tgt := 110) dX6_isRefusedByHouse_90 (by decide) (fun h90 => ?_) (fun h90 => ?_)
        · replace h90 := Int32.not_lt.mpr h90
          refine V_iload_n (i := 2) dX6_isRefusedByHouse_110 rfl rfl ?_
          refine V_aload_n (i := 1) dX6_isRefusedByHouse_111 rfl rfl ?_
          refine Cv1_0 (d := 1) cv_X6_122 dX6_isRefusedByHouse_112 (t_X3_dogStillLets hA (by decide) hh) (hp9 hA (by omega) (by omega)) rfl rfl (Nat.le_of_ble_eq_true rfl) ⟨Nat.le_refl _, Nat.le_refl _⟩ (by decide) ⟨Nat.le_of_ble_eq_true rfl, Nat.le_of_ble_eq_true rfl⟩ ?_
          refine V_icmp_le (tgt := 132) dX6_isRefusedByHouse_115 (by decide) (fun h115 => ?_) (fun h115 => ?_)
          · replace h115 := Int32.not_lt.mpr h115
            refine V_iload_n (i := 3) dX6_isRefusedByHouse_132 rfl rfl ?_
            refine V_iconst (v := (-1)) dX6_isRefusedByHouse_133 (by decide) ?_
            refine V_icmp_ne (tgt := 141) dX6_isRefusedByHouse_134 (by decide) (fun h134 => ?_) (fun h134 => ?_)
            · refine V_iconst (v := 0) dX6_isRefusedByHouse_141 (by decide) ?_
              refine V_zret dX6_isRefusedByHouse_142 rfl (by first | rfl | exact bi_n _) (Nat.le_of_ble_eq_true rfl) (Nat.le_of_ble_eq_true rfl) ?_
              first
                | exact absurd rfl h134
                | exact absurd h134 (by decide)
                | exact hb_y (by simp [S_hby, *]) (by decide)
                | exact hb_n (by simp [S_hby, *])
            · refine V_iconst (v := 1) dX6_isRefusedByHouse_137 (by decide) ?_
              refine V_goto (tgt := 142) dX6_isRefusedByHouse_138 (by decide) ?_
              refine V_zret dX6_isRefusedByHouse_142 rfl (by first | rfl | exact bi_n _) (Nat.le_of_ble_eq_true rfl) (Nat.le_of_ble_eq_true rfl) ?_
              first
                | exact absurd rfl h134
                | exact absurd h134 (by decide)
                | exact hb_y (by simp [S_hby, *]) (by decide)
                | exact hb_n (by simp [S_hby, *])
          · replace h115 := Int32.not_le.mp h115
            refine V_aload_n (i := 0) dX6_isRefusedByHouse_118 rfl rfl ?_
            refine V_getf fl_X6_21 dX6_isRefusedByHouse_119 (hp1 hA) rfl ?_
            refine V_bipush (v := 12) dX6_isRefusedByHouse_122 (by decide) ?_
            refine V_aload_n (i := 1) dX6_isRefusedByHouse_124 rfl rfl ?_
            refine Cv1_0 (d := 1) cv_X6_122 dX6_isRefusedByHouse_125 (t_X3_dogStillLets hA (by decide) hh) (hp9 hA (by omega) (by omega)) rfl rfl (Nat.le_of_ble_eq_true rfl) ⟨Nat.le_refl _, Nat.le_refl _⟩ (by decide) ⟨Nat.le_of_ble_eq_true rfl, Nat.le_of_ble_eq_true rfl⟩ ?_
            refine Cv1_2 (d := 1) cv_X6_29 dX6_isRefusedByHouse_128 (t_X4_refuse hA) (hp2 hA) rfl rfl (Nat.le_of_ble_eq_true rfl) ⟨Nat.le_refl _, Nat.le_refl _⟩ (by decide) ⟨Nat.le_of_ble_eq_true rfl, Nat.le_of_ble_eq_true rfl⟩ ?_
            refine V_istore_n (i := 3) dX6_isRefusedByHouse_131 rfl (by decide) ?_
            refine V_iload_n (i := 3) dX6_isRefusedByHouse_132 rfl rfl ?_
            refine V_iconst (v := (-1)) dX6_isRefusedByHouse_133 (by decide) ?_
            refine V_icmp_ne (tgt := 141) dX6_isRefusedByHouse_134 (by decide) (fun h134 => ?_) (fun h134 => ?_)
            · refine V_iconst (v := 0) dX6_isRefusedByHouse_141 (by decide) ?_
              refine V_zret dX6_isRefusedByHouse_142 rfl (by first | rfl | exact bi_n _) (Nat.le_of_ble_eq_true rfl) (Nat.le_of_ble_eq_true rfl) ?_
              first
                | exact absurd rfl h134
                | exact absurd h134 (by decide)
                | exact hb_y (by simp [S_hby, *]) (by decide)
                | exact hb_n (by simp [S_hby, *])
            · refine V_iconst (v := 1) dX6_isRefusedByHouse_137 (by decide) ?_
              refine V_goto (tgt := 142) dX6_isRefusedByHouse_138 (by decide) ?_
              refine V_zret dX6_isRefusedByHouse_142 rfl (by first | rfl | exact bi_n _) (Nat.le_of_ble_eq_true rfl) (Nat.le_of_ble_eq_true rfl) ?_
              first
                | exact absurd rfl h134
                | exact absurd h134 (by decide)
                | exact hb_y (by simp [S_hby, *]) (by decide)
                | exact hb_n (by simp [S_hby, *])
        · replace h90 := Int32.not_le.mp h90
          refine V_aload_n (i := 0) dX6_isRefusedByHouse_93 rfl rfl ?_
          refine V_getf fl_X6_21 dX6_isRefusedByHouse_94 (hp1 hA) rfl ?_
          refine V_bipush (v := 11) dX6_isRefusedByHouse_97 (by decide) ?_
          refine V_aload_n (i := 1) dX6_isRefusedByHouse_99 rfl rfl ?_
          refine V_getf fl_X6_119 dX6_isRefusedByHouse_100 (hp9 hA (by omega) (by omega)) rfl ?_
          refine Cv1_2 (d := 1) cv_X6_29 dX6_isRefusedByHouse_103 (t_X4_refuse hA) (hp2 hA) rfl rfl (Nat.le_of_ble_eq_true rfl) ⟨Nat.le_refl _, Nat.le_refl _⟩ (by decide) ⟨Nat.le_of_ble_eq_true rfl, Nat.le_of_ble_eq_true rfl⟩ ?_
          refine V_istore_n (i := 3) dX6_isRefusedByHouse_106 rfl (by decide) ?_
          refine V_goto (tgt := 132) dX6_isRefusedByHouse_107 (by decide) ?_
          refine V_iload_n (i := 3) dX6_isRefusedByHouse_132 rfl rfl ?_
          refine V_iconst (v := (-1)) dX6_isRefusedByHouse_133 (by decide) ?_
          refine V_icmp_ne (tgt := 141) dX6_isRefusedByHouse_134 (by decide) (fun h134 => ?_) (fun h134 => ?_)
          · refine V_iconst (v := 0) dX6_isRefusedByHouse_141 (by decide) ?_
            refine V_zret dX6_isRefusedByHouse_142 rfl (by first | rfl | exact bi_n _) (Nat.le_of_ble_eq_true rfl) (Nat.le_of_ble_eq_true rfl) ?_
            first
              | exact absurd rfl h134
              | exact absurd h134 (by decide)
              | exact hb_y (by simp [S_hby, *]) (by decide)
              | exact hb_n (by simp [S_hby, *])
          · refine V_iconst (v := 1) dX6_isRefusedByHouse_137 (by decide) ?_
            refine V_goto (tgt := 142) dX6_isRefusedByHouse_138 (by decide) ?_
            refine V_zret dX6_isRefusedByHouse_142 rfl (by first | rfl | exact bi_n _) (Nat.le_of_ble_eq_true rfl) (Nat.le_of_ble_eq_true rfl) ?_
            first
              | exact absurd rfl h134
              | exact absurd h134 (by decide)
              | exact hb_y (by simp [S_hby, *]) (by decide)
              | exact hb_n (by simp [S_hby, *])
      · replace h64 := Int32.not_le.mp h64
        refine V_aload_n (i := 0) dX6_isRefusedByHouse_67 rfl rfl ?_
        refine V_getf fl_X6_21 dX6_isRefusedByHouse_68 (hp1 hA) rfl ?_
        refine V_bipush (v := 10) dX6_isRefusedByHouse_71 (by decide) ?_
        refine V_aload_n (i := 1) dX6_isRefusedByHouse_73 rfl rfl ?_
        refine V_getf fl_X6_116 dX6_isRefusedByHouse_74 (hp9 hA (by omega) (by omega)) rfl ?_
        refine Cv1_2 (d := 1) cv_X6_29 dX6_isRefusedByHouse_77 (t_X4_refuse hA) (hp2 hA) rfl rfl (Nat.le_of_ble_eq_true rfl) ⟨Nat.le_refl _, Nat.le_refl _⟩ (by decide) ⟨Nat.le_of_ble_eq_true rfl, Nat.le_of_ble_eq_true rfl⟩ ?_
        refine V_istore_n (i := 3) dX6_isRefusedByHouse_80 rfl (by decide) ?_
        refine V_goto (tgt := 132) dX6_isRefusedByHouse_81 (by decide) ?_
        refine V_iload_n (i := 3) dX6_isRefusedByHouse_132 rfl rfl ?_
        refine V_iconst (v := (-1)) dX6_isRefusedByHouse_133 (by decide) ?_
        refine V_icmp_ne (tgt := 141) dX6_isRefusedByHouse_134 (by decide) (fun h134 => ?_) (fun h134 => ?_)
        · refine V_iconst (v := 0) dX6_isRefusedByHouse_141 (by decide) ?_
          refine V_zret dX6_isRefusedByHouse_142 rfl (by first | rfl | exact bi_n _) (Nat.le_of_ble_eq_true rfl) (Nat.le_of_ble_eq_true rfl) ?_
          first
            | exact absurd rfl h134
            | exact absurd h134 (by decide)
            | exact hb_y (by simp [S_hby, *]) (by decide)
            | exact hb_n (by simp [S_hby, *])
        · refine V_iconst (v := 1) dX6_isRefusedByHouse_137 (by decide) ?_
          refine V_goto (tgt := 142) dX6_isRefusedByHouse_138 (by decide) ?_
          refine V_zret dX6_isRefusedByHouse_142 rfl (by first | rfl | exact bi_n _) (Nat.le_of_ble_eq_true rfl) (Nat.le_of_ble_eq_true rfl) ?_
          first
            | exact absurd rfl h134
            | exact absurd h134 (by decide)
            | exact hb_y (by simp [S_hby, *]) (by decide)
            | exact hb_n (by simp [S_hby, *])
    · replace h38 := Int32.not_le.mp h38
      refine V_aload_n (i := 0) dX6_isRefusedByHouse_41 rfl rfl ?_
      refine V_getf fl_X6_21 dX6_isRefusedByHouse_42 (hp1 hA) rfl ?_
      refine V_bipush (v := 9) dX6_isRefusedByHouse_45 (by decide) ?_
      refine V_aload_n (i := 1) dX6_isRefusedByHouse_47 rfl rfl ?_
      refine V_getf fl_X6_113 dX6_isRefusedByHouse_48 (hp9 hA (by omega) (by omega)) rfl ?_
      refine Cv1_2 (d := 1) cv_X6_29 dX6_isRefusedByHouse_51 (t_X4_refuse hA) (hp2 hA) rfl rfl (Nat.le_of_ble_eq_true rfl) ⟨Nat.le_refl _, Nat.le_refl _⟩ (by decide) ⟨Nat.le_of_ble_eq_true rfl, Nat.le_of_ble_eq_true rfl⟩ ?_
      refine V_istore_n (i := 3) dX6_isRefusedByHouse_54 rfl (by decide) ?_
      refine V_goto (tgt := 132) dX6_isRefusedByHouse_55 (by decide) ?_
      refine V_iload_n (i := 3) dX6_isRefusedByHouse_132 rfl rfl ?_
      refine V_iconst (v := (-1)) dX6_isRefusedByHouse_133 (by decide) ?_
      refine V_icmp_ne (tgt := 141) dX6_isRefusedByHouse_134 (by decide) (fun h134 => ?_) (fun h134 => ?_)
      · refine V_iconst (v := 0) dX6_isRefusedByHouse_141 (by decide) ?_
        refine V_zret dX6_isRefusedByHouse_142 rfl (by first | rfl | exact bi_n _) (Nat.le_of_ble_eq_true rfl) (Nat.le_of_ble_eq_true rfl) ?_
        first
          | exact absurd rfl h134
          | exact absurd h134 (by decide)
          | exact hb_y (by simp [S_hby, *]) (by decide)
          | exact hb_n (by simp [S_hby, *])
      · refine V_iconst (v := 1) dX6_isRefusedByHouse_137 (by decide) ?_
        refine V_goto (tgt := 142) dX6_isRefusedByHouse_138 (by decide) ?_
        refine V_zret dX6_isRefusedByHouse_142 rfl (by first | rfl | exact bi_n _) (Nat.le_of_ble_eq_true rfl) (Nat.le_of_ble_eq_true rfl) ?_
        first
          | exact absurd rfl h134
          | exact absurd h134 (by decide)
          | exact hb_y (by simp [S_hby, *]) (by decide)
          | exact hb_n (by simp [S_hby, *])
  · replace h10 := Int32.not_le.mp h10
    refine V_aload_n (i := 0) dX6_isRefusedByHouse_13 rfl rfl ?_
    refine V_getf fl_X6_21 dX6_isRefusedByHouse_14 (hp1 hA) rfl ?_
    refine V_bipush (v := 8) dX6_isRefusedByHouse_17 (by decide) ?_
    refine V_aload_n (i := 0) dX6_isRefusedByHouse_19 rfl rfl ?_
    refine V_getf fl_X6_12 dX6_isRefusedByHouse_20 (hp1 hA) rfl ?_
    refine V_getf fl_X6_74 dX6_isRefusedByHouse_23 (hp5 hA (by omega)) rfl ?_
    refine Cv1_2 (d := 1) cv_X6_29 dX6_isRefusedByHouse_26 (t_X4_refuse hA) (hp2 hA) rfl rfl (Nat.le_of_ble_eq_true rfl) ⟨Nat.le_refl _, Nat.le_refl _⟩ (by decide) ⟨Nat.le_of_ble_eq_true rfl, Nat.le_of_ble_eq_true rfl⟩ ?_
    refine V_istore_n (i := 3) dX6_isRefusedByHouse_29 rfl (by decide) ?_
    refine V_goto (tgt := 132) dX6_isRefusedByHouse_30 (by decide) ?_
    refine V_iload_n (i := 3) dX6_isRefusedByHouse_132 rfl rfl ?_
    refine V_iconst (v := (-1)) dX6_isRefusedByHouse_133 (by decide) ?_
    refine V_icmp_ne (tgt := 141) dX6_isRefusedByHouse_134 (by decide) (fun h134 => ?_) (fun h134 => ?_)
    · refine V_iconst (v := 0) dX6_isRefusedByHouse_141 (by decide) ?_
      refine V_zret dX6_isRefusedByHouse_142 rfl (by first | rfl | exact bi_n _) (Nat.le_of_ble_eq_true rfl) (Nat.le_of_ble_eq_true rfl) ?_
      first
        | exact absurd rfl h134
        | exact absurd h134 (by decide)
        | exact hb_y (by simp [S_hby, *]) (by decide)
        | exact hb_n (by simp [S_hby, *])
    · refine V_iconst (v := 1) dX6_isRefusedByHouse_137 (by decide) ?_
      refine V_goto (tgt := 142) dX6_isRefusedByHouse_138 (by decide) ?_
      refine V_zret dX6_isRefusedByHouse_142 rfl (by first | rfl | exact bi_n _) (Nat.le_of_ble_eq_true rfl) (Nat.le_of_ble_eq_true rfl) ?_
      first
        | exact absurd rfl h134
        | exact absurd h134 (by decide)
        | exact hb_y (by simp [S_hby, *]) (by decide)
        | exact hb_n (by simp [S_hby, *])

set_option maxHeartbeats 4000000 in
set_option maxRecDepth 100000 in
theorem t_X6_carryUp {D : va_G} {s0 : State} {l : Launch} {B : Nat} {A : AT} {σ : Sg} (hA : AOK B A) {nh : Nat} (h1 : σ.1 5 0 1 = nI nh) (hn : nh ≤ 8) {nc : Nat} (h2 : σ.1 5 0 2 = nI nc) (hm : nc ≤ 4) {pl : Nat} (h3 : σ.1 5 0 3 = nI pl) (hp : pl ≤ nh) {x n : Int32} : Tri D s0 l yX6_carryUp cX6_carryUp 7 ((some .int)) 3 0 0 [.ref (A 1 0 0), .int x, .int n] (HP A σ) (fun r G' => r = some (.int (wA (S_carry (σ.1 5 0) nc pl x n))) ∧ G' = HP A (wS σ (S_carry (σ.1 5 0) nc pl x n))) noX := by
  refine Tri.ofV (own := RX6) (mn := "carryUp") (by decide +kernel) rfl rfl (Nat.le_of_ble_eq_true rfl) ?_
  by_cases ho : ob x 0 (nI nc - 1) = true
  ·
    refine V_aload_n (i := 0) dX6_carryUp_0 rfl rfl ?_
    refine V_getf fl_X6_12 dX6_carryUp_1 (hp1 hA) rfl ?_
    refine V_iload_n (i := 1) dX6_carryUp_4 rfl rfl ?_
    refine Cv1_1 (d := 3) cv_X6_90 dX6_carryUp_5 (t_X5_carrierAt_n hA (by decide) h2 hm ho) (hp5 hA (by omega)) rfl rfl (Nat.le_of_ble_eq_true rfl) ⟨Nat.le_refl _, Nat.le_refl _⟩ (by decide) ⟨Nat.le_of_ble_eq_true rfl, Nat.le_of_ble_eq_true rfl⟩ ?_
    refine V_astore_nN (i := 3) dX6_carryUp_8 rfl (by decide) ?_
    refine V_aload_nN (i := 3) dX6_carryUp_9 rfl rfl ?_
    refine V_ifnonnullN dX6_carryUp_10 ?_
    refine V_aload_n (i := 0) dX6_carryUp_13 rfl rfl ?_
    refine V_getf fl_X6_21 dX6_carryUp_14 (hp1 hA) rfl ?_
    refine V_iconst (v := 3) dX6_carryUp_17 (by decide) ?_
    refine V_iload_n (i := 1) dX6_carryUp_18 rfl rfl ?_
    refine Cv1_2 (d := 3) cv_X6_29 dX6_carryUp_19 (t_X4_refuse hA) (hp2 hA) rfl rfl (Nat.le_of_ble_eq_true rfl) ⟨Nat.le_refl _, Nat.le_refl _⟩ (by decide) ⟨Nat.le_of_ble_eq_true rfl, Nat.le_of_ble_eq_true rfl⟩ ?_
    refine V_iret dX6_carryUp_22 rfl (Nat.le_of_ble_eq_true rfl) (Nat.le_of_ble_eq_true rfl) ?_
    first
      | exact fno (u := σ.1 5 0) (c := 0) (by simp [S_carry, *]) (by decide)
      | exact fok (x := (S_carry_w (σ.1 5 0) j (pl - 1) m (kx j 1))) (u := (S_carry_w (σ.1 5 0) j (pl - 1) m)) (by simp [S_carry, *]) (by simp only [w3_row, row_row, row_at] <;> rfl) (by simp only [w3_row, row_row, row_at] <;> rfl)
  · obtain ⟨j, hj, rfl⟩ := ob_ex (by omega) (Bool.eq_false_iff.mpr ho)
    have hc := nI_clamp (n := j) (by omega)
    have hj4 : j < 4 := by omega
    by_cases hp0 : pl = 0
    ·
      refine V_aload_n (i := 0) dX6_carryUp_0 rfl rfl ?_
      refine V_getf fl_X6_12 dX6_carryUp_1 (hp1 hA) rfl ?_
      refine V_iload_n (i := 1) dX6_carryUp_4 rfl rfl ?_
      refine Cv1_1 (d := 3) cv_X6_90 dX6_carryUp_5 (t_X5_carrierAt_s hA (by decide) h2 hm hj) (hp5 hA (by omega)) rfl rfl (Nat.le_of_ble_eq_true rfl) ⟨Nat.le_refl _, Nat.le_refl _⟩ (by decide) ⟨Nat.le_of_ble_eq_true rfl, Nat.le_of_ble_eq_true rfl⟩ ?_
      refine V_astore_n (i := 3) dX6_carryUp_8 rfl (by decide) ?_
      refine V_aload_n (i := 3) dX6_carryUp_9 rfl rfl ?_
      refine V_ifnonnull (tgt := 23) dX6_carryUp_10 (by decide) ?_
      refine V_iload_n (i := 2) dX6_carryUp_23 rfl rfl ?_
      refine V_iconst (v := 1) dX6_carryUp_24 (by decide) ?_
      refine V_bipush (v := 9) dX6_carryUp_25 (by decide) ?_
      refine Cn1_3 (d := 3) cn_X6_25 st_X7_isOutside dX6_carryUp_27 (t_X7_isOutside hA) (Nat.le_of_ble_eq_true rfl) ⟨Nat.le_refl _, Nat.le_refl _⟩ (by decide) ⟨Nat.le_of_ble_eq_true rfl, Nat.le_of_ble_eq_true rfl⟩ ?_
      refine V_if_eq (tgt := 43) dX6_carryUp_30 (by decide) (fun h30 => ?_) (fun h30 => ?_)
      · replace h30 := bi_0.mp h30
        obtain ⟨m, hm1, hm9, rfl⟩ := ob_ex2 (a := 1) (b := 9) (by decide) (by decide) h30
        have hcm := nI_clamp (n := m) (by omega)
        refine V_aload_n (i := 0) dX6_carryUp_43 rfl rfl ?_
        refine V_getf fl_X6_12 dX6_carryUp_44 (hp1 hA) rfl ?_
        refine Cv1_0 (d := 3) cv_X6_94 dX6_carryUp_47 (t_X5_houseHere_n hA (by decide) h1 hn (by rw [h3, hp0]; rfl)) (hp5 hA (by omega)) rfl rfl (Nat.le_of_ble_eq_true rfl) ⟨Nat.le_refl _, Nat.le_refl _⟩ (by decide) ⟨Nat.le_of_ble_eq_true rfl, Nat.le_of_ble_eq_true rfl⟩ ?_
        refine V_astoreN (i := 4) dX6_carryUp_50 (by decide) ?_
        refine V_aloadN (i := 4) dX6_carryUp_52 rfl ?_
        refine V_ifnonnullN dX6_carryUp_54 ?_
        refine V_aload_n (i := 0) dX6_carryUp_57 rfl rfl ?_
        refine V_getf fl_X6_21 dX6_carryUp_58 (hp1 hA) rfl ?_
        refine V_bipush (v := 7) dX6_carryUp_61 (by decide) ?_
        refine V_iconst (v := 0) dX6_carryUp_63 (by decide) ?_
        refine Cv1_2 (d := 3) cv_X6_29 dX6_carryUp_64 (t_X4_refuse hA) (hp2 hA) rfl rfl (Nat.le_of_ble_eq_true rfl) ⟨Nat.le_refl _, Nat.le_refl _⟩ (by decide) ⟨Nat.le_of_ble_eq_true rfl, Nat.le_of_ble_eq_true rfl⟩ ?_
        refine V_iret dX6_carryUp_67 rfl (Nat.le_of_ble_eq_true rfl) (Nat.le_of_ble_eq_true rfl) ?_
        first
          | exact fno (u := σ.1 5 0) (c := 0) (by simp [S_carry, *]) (by decide)
          | exact fok (x := (S_carry_w (σ.1 5 0) j (pl - 1) m (kx j 1))) (u := (S_carry_w (σ.1 5 0) j (pl - 1) m)) (by simp [S_carry, *]) (by simp only [w3_row, row_row, row_at] <;> rfl) (by simp only [w3_row, row_row, row_at] <;> rfl)
      · replace h30 := bi_1.mp h30
        refine V_aload_n (i := 0) dX6_carryUp_33 rfl rfl ?_
        refine V_getf fl_X6_21 dX6_carryUp_34 (hp1 hA) rfl ?_
        refine V_iconst (v := 1) dX6_carryUp_37 (by decide) ?_
        refine V_iconst (v := 0) dX6_carryUp_38 (by decide) ?_
        refine Cv1_2 (d := 3) cv_X6_29 dX6_carryUp_39 (t_X4_refuse hA) (hp2 hA) rfl rfl (Nat.le_of_ble_eq_true rfl) ⟨Nat.le_refl _, Nat.le_refl _⟩ (by decide) ⟨Nat.le_of_ble_eq_true rfl, Nat.le_of_ble_eq_true rfl⟩ ?_
        refine V_iret dX6_carryUp_42 rfl (Nat.le_of_ble_eq_true rfl) (Nat.le_of_ble_eq_true rfl) ?_
        first
          | exact fno (u := σ.1 5 0) (c := 0) (by simp [S_carry, *]) (by decide)
          | exact fok (x := (S_carry_w (σ.1 5 0) j (pl - 1) m (kx j 1))) (u := (S_carry_w (σ.1 5 0) j (pl - 1) m)) (by simp [S_carry, *]) (by simp only [w3_row, row_row, row_at] <;> rfl) (by simp only [w3_row, row_row, row_at] <;> rfl)
    ·
      refine V_aload_n (i := 0) dX6_carryUp_0 rfl rfl ?_
      refine V_getf fl_X6_12 dX6_carryUp_1 (hp1 hA) rfl ?_
      refine V_iload_n (i := 1) dX6_carryUp_4 rfl rfl ?_
      refine Cv1_1 (d := 3) cv_X6_90 dX6_carryUp_5 (t_X5_carrierAt_s hA (by decide) h2 hm hj) (hp5 hA (by omega)) rfl rfl (Nat.le_of_ble_eq_true rfl) ⟨Nat.le_refl _, Nat.le_refl _⟩ (by decide) ⟨Nat.le_of_ble_eq_true rfl, Nat.le_of_ble_eq_true rfl⟩ ?_
      refine V_astore_n (i := 3) dX6_carryUp_8 rfl (by decide) ?_
      refine V_aload_n (i := 3) dX6_carryUp_9 rfl rfl ?_
      refine V_ifnonnull (tgt := 23) dX6_carryUp_10 (by decide) ?_
      refine V_iload_n (i := 2) dX6_carryUp_23 rfl rfl ?_
      refine V_iconst (v := 1) dX6_carryUp_24 (by decide) ?_
      refine V_bipush (v := 9) dX6_carryUp_25 (by decide) ?_
      refine Cn1_3 (d := 3) cn_X6_25 st_X7_isOutside dX6_carryUp_27 (t_X7_isOutside hA) (Nat.le_of_ble_eq_true rfl) ⟨Nat.le_refl _, Nat.le_refl _⟩ (by decide) ⟨Nat.le_of_ble_eq_true rfl, Nat.le_of_ble_eq_true rfl⟩ ?_
      refine V_if_eq (tgt := 43) dX6_carryUp_30 (by decide) (fun h30 => ?_) (fun h30 => ?_)
      · replace h30 := bi_0.mp h30
        obtain ⟨m, hm1, hm9, rfl⟩ := ob_ex2 (a := 1) (b := 9) (by decide) (by decide) h30
        have hcm := nI_clamp (n := m) (by omega)
        refine V_aload_n (i := 0) dX6_carryUp_43 rfl rfl ?_
        refine V_getf fl_X6_12 dX6_carryUp_44 (hp1 hA) rfl ?_
        refine Cv1_0 (d := 3) cv_X6_94 dX6_carryUp_47 (t_X5_houseHere_s hA (by decide) h1 hn h3 (by omega) hp) (hp5 hA (by omega)) rfl rfl (Nat.le_of_ble_eq_true rfl) ⟨Nat.le_refl _, Nat.le_refl _⟩ (by decide) ⟨Nat.le_of_ble_eq_true rfl, Nat.le_of_ble_eq_true rfl⟩ ?_
        refine V_astore (i := 4) dX6_carryUp_50 (by decide) ?_
        refine V_aload (i := 4) dX6_carryUp_52 rfl ?_
        refine V_ifnonnull (tgt := 68) dX6_carryUp_54 (by decide) ?_
        refine V_aload_n (i := 0) dX6_carryUp_68 rfl rfl ?_
        refine V_aload (i := 4) dX6_carryUp_69 rfl ?_
        refine V_iload_n (i := 2) dX6_carryUp_71 rfl rfl ?_
        refine Cv1_2 (d := 3) cv_X6_98 dX6_carryUp_72 (t_X6_isRefusedByHouse hA (by omega)) (hp1 hA) rfl rfl (Nat.le_of_ble_eq_true rfl) ⟨Nat.le_refl _, Nat.le_refl _⟩ (by decide) ⟨Nat.le_of_ble_eq_true rfl, Nat.le_of_ble_eq_true rfl⟩ ?_
        refine V_if_eq (tgt := 80) dX6_carryUp_75 (by decide) (fun h75 => ?_) (fun h75 => ?_)
        · replace h75 := bi_0.mp h75
          have h76 := Classical.not_not.mp (of_decide_eq_false h75)
          rw [if_pos h76]
          refine V_aload_n (i := 3) dX6_carryUp_80 rfl rfl ?_
          refine V_getf fl_X6_102 dX6_carryUp_81 (hp10 hA (by omega) (by omega)) rfl ?_
          refine V_iload_n (i := 2) dX6_carryUp_84 rfl rfl ?_
          refine V_aload_n (i := 3) dX6_carryUp_85 rfl rfl ?_
          refine V_aload (i := 4) dX6_carryUp_86 rfl ?_
          refine Cv1_1 (d := 3) cv_X6_105 dX6_carryUp_88 (t_X0_tiredByASack hA (by decide) hj4 (by omega)) (hp10 hA (by omega) (by omega)) rfl rfl (Nat.le_of_ble_eq_true rfl) ⟨Nat.le_refl _, Nat.le_refl _⟩ (by decide) ⟨Nat.le_of_ble_eq_true rfl, Nat.le_of_ble_eq_true rfl⟩ ?_
          refine V_imul dX6_carryUp_91 ?_
          refine V_iadd dX6_carryUp_92 ?_
          refine V_istore (i := 5) dX6_carryUp_93 (by decide) ?_
          refine V_iload (i := 5) dX6_carryUp_95 rfl ?_
          refine V_bipush (v := 30) dX6_carryUp_97 (by decide) ?_
          refine V_icmp_le (tgt := 114) dX6_carryUp_99 (by decide) (fun h99 => ?_) (fun h99 => ?_)
          · replace h99 : ¬ 30 < S_carry_t (σ.1 5 0) j (pl - 1) (nI m) := Int32.not_lt.mpr h99
            refine V_iconst (v := 0) dX6_carryUp_114 (by decide) ?_
            have loop : ∀ n i : Nat, i + n = m → V D s0 RX6 "carryUp" cX6_carryUp 7 ((some .int)) [] l (rmd 3 0 0) (Zm D s0 0 0 (fun r G' => r = some (.int (wA (S_carry (σ.1 5 0) nc pl (nI j) (nI m)))) ∧ G' = HP A (wS σ (S_carry (σ.1 5 0) nc pl (nI j) (nI m)))) noX) 117 [(0, .ref (A 1 0 0)), (1, .int (nI j)), (2, .int (nI m)), (3, .ref (A 10 0 j)), (4, .ref (A 9 0 (pl - 1))), (6, .int (nI i))] [] (HP A (row σ 5 0 (S_sks (σ.1 5 0) j (pl - 1) i))) 0 0 := by
              intro n
              induction n with
              | zero =>
                intro i hi9
                obtain rfl : m = i := by omega
                refine V_iload (i := 6) dX6_carryUp_117 rfl ?_
                refine V_iload_n (i := 2) dX6_carryUp_119 rfl rfl ?_
                refine V_icmp_ge (tgt := 135) dX6_carryUp_120 (by decide) (fun _ => ?_) (fun h120 => by first | exact absurd (nI_le (Nat.le_refl _) (by omega)) h120 | exact absurd h120 (nI_le (Nat.le_refl _) (by omega)))
                refine V_aload_n (i := 0) dX6_carryUp_135 rfl rfl ?_
                refine V_getf fl_X6_12 dX6_carryUp_136 (hp1 hA) rfl ?_
                refine V_dup dX6_carryUp_139 rfl ?_
                refine V_getf fl_X6_74 dX6_carryUp_140 (hp5 hA (by omega)) rfl ?_
                refine V_iload_n (i := 2) dX6_carryUp_143 rfl rfl ?_
                refine V_isub dX6_carryUp_144 ?_
                refine VP_5_7 fl_X6_74 dX6_carryUp_145 hA (by omega) ?_
                refine V_aload_n (i := 3) dX6_carryUp_148 rfl rfl ?_
                refine V_getf fl_X6_102 dX6_carryUp_149 (hp10 hA (by omega) (by omega)) rfl ?_
                refine V_iret dX6_carryUp_152 rfl (Nat.le_of_ble_eq_true rfl) (Nat.le_of_ble_eq_true rfl) ?_
                first
                  | exact fno (u := σ.1 5 0) (c := 0) (by simp [S_carry, *]) (by decide)
                  | exact fok (x := (S_carry_w (σ.1 5 0) j (pl - 1) m (kx j 1))) (u := (S_carry_w (σ.1 5 0) j (pl - 1) m)) (by simp [S_carry, *]) (by simp only [w3_row, row_row, row_at] <;> rfl) (by simp only [w3_row, row_row, row_at] <;> rfl)
              | succ n ih =>
                intro i hi9
                have k9 := ih (i + 1) (by omega)
                have hi8 : i < m := by omega
                refine V_iload (i := 6) dX6_carryUp_117 rfl ?_
                refine V_iload_n (i := 2) dX6_carryUp_119 rfl rfl ?_
                refine V_icmp_ge (tgt := 135) dX6_carryUp_120 (by decide) (fun h120 => by first | exact absurd h120 (nI_ge (by omega) (by omega)) | exact absurd (nI_ge (by omega) (by omega)) h120) (fun _ => ?_)
                refine V_aload_n (i := 3) dX6_carryUp_123 rfl rfl ?_
                refine V_aload (i := 4) dX6_carryUp_124 rfl ?_
                refine Cv0_1 (d := 3) cv_X6_109 dX6_carryUp_126 (t_X0_carrySack hA (by decide) hj4 (by omega)) (hp10 hA (by omega) (by omega)) rfl rfl (Nat.le_of_ble_eq_true rfl) ⟨Nat.le_refl _, Nat.le_refl _⟩ (by decide) ⟨Nat.le_of_ble_eq_true rfl, Nat.le_of_ble_eq_true rfl⟩ ?_
                refine V_iinc (i := 6) dX6_carryUp_129 rfl (inc1 _) (by decide) ?_
                refine V_goto (tgt := 117) dX6_carryUp_132 (by decide) ?_
                refine V.fin [1, 2, 3, 4, 5, 0] rfl (congrArg (HP A) ?_) k9
                simp only [row_row, row_at] <;> rfl
            refine V_istore (i := 6) dX6_carryUp_115 (by decide) ?_
            refine V.fin [4, 5, 6, 3, 2, 0] rfl (congrArg (HP A) row_self.symm) (loop m 0 (by omega))
          · replace h99 : 30 < S_carry_t (σ.1 5 0) j (pl - 1) (nI m) := Int32.not_le.mp h99
            refine V_aload_n (i := 0) dX6_carryUp_102 rfl rfl ?_
            refine V_getf fl_X6_21 dX6_carryUp_103 (hp1 hA) rfl ?_
            refine V_bipush (v := 13) dX6_carryUp_106 (by decide) ?_
            refine V_iload (i := 5) dX6_carryUp_108 rfl ?_
            refine Cv1_2 (d := 3) cv_X6_29 dX6_carryUp_110 (t_X4_refuse hA) (hp2 hA) rfl rfl (Nat.le_of_ble_eq_true rfl) ⟨Nat.le_refl _, Nat.le_refl _⟩ (by decide) ⟨Nat.le_of_ble_eq_true rfl, Nat.le_of_ble_eq_true rfl⟩ ?_
            refine V_iret dX6_carryUp_113 rfl (Nat.le_of_ble_eq_true rfl) (Nat.le_of_ble_eq_true rfl) ?_
            exact fno (a := 13) (b := S_carry_t (σ.1 5 0) j (pl - 1) (nI m)) (u := σ.1 5 0) (c := 0) (by simp [S_carry, *]) (by decide)
        · replace h75 := bi_1.mp h75
          have h76 := of_decide_eq_true h75
          rw [if_neg h76]
          refine V_iconst (v := (-1)) dX6_carryUp_78 (by decide) ?_
          refine V_iret dX6_carryUp_79 rfl (Nat.le_of_ble_eq_true rfl) (Nat.le_of_ble_eq_true rfl) ?_
          exact fno (a := (S_hby (σ.1 5 0) (pl - 1) (nI m)).1) (b := (S_hby (σ.1 5 0) (pl - 1) (nI m)).2) (u := σ.1 5 0) (c := 0) (by simp [S_carry, *]) h76
      · replace h30 := bi_1.mp h30
        refine V_aload_n (i := 0) dX6_carryUp_33 rfl rfl ?_
        refine V_getf fl_X6_21 dX6_carryUp_34 (hp1 hA) rfl ?_
        refine V_iconst (v := 1) dX6_carryUp_37 (by decide) ?_
        refine V_iconst (v := 0) dX6_carryUp_38 (by decide) ?_
        refine Cv1_2 (d := 3) cv_X6_29 dX6_carryUp_39 (t_X4_refuse hA) (hp2 hA) rfl rfl (Nat.le_of_ble_eq_true rfl) ⟨Nat.le_refl _, Nat.le_refl _⟩ (by decide) ⟨Nat.le_of_ble_eq_true rfl, Nat.le_of_ble_eq_true rfl⟩ ?_
        refine V_iret dX6_carryUp_42 rfl (Nat.le_of_ble_eq_true rfl) (Nat.le_of_ble_eq_true rfl) ?_
        first
          | exact fno (u := σ.1 5 0) (c := 0) (by simp [S_carry, *]) (by decide)
          | exact fok (x := (S_carry_w (σ.1 5 0) j (pl - 1) m (kx j 1))) (u := (S_carry_w (σ.1 5 0) j (pl - 1) m)) (by simp [S_carry, *]) (by simp only [w3_row, row_row, row_at] <;> rfl) (by simp only [w3_row, row_row, row_at] <;> rfl)

set_option maxHeartbeats 4000000 in
set_option maxRecDepth 100000 in
theorem t_X6_giveBone {D : va_G} {s0 : State} {l : Launch} {B : Nat} {A : AT} {σ : Sg} (hA : AOK B A) {nh : Nat} (h1 : σ.1 5 0 1 = nI nh) (hn : nh ≤ 8) {pl : Nat} (h3 : σ.1 5 0 3 = nI pl) (hp : pl ≤ nh) : Tri D s0 l yX6_giveBone cX6_giveBone 2 ((some .int)) 3 0 0 [.ref (A 1 0 0)] (HP A σ) (fun r G' => r = some (.int (wA (S_bone (σ.1 5 0) pl))) ∧ G' = HP A (wS σ (S_bone (σ.1 5 0) pl))) noX := by
  refine Tri.ofV (own := RX6) (mn := "giveBone") (by decide +kernel) rfl rfl (Nat.le_of_ble_eq_true rfl) ?_
  by_cases hp0 : pl = 0
  ·
    refine V_aload_n (i := 0) dX6_giveBone_0 rfl rfl ?_
    refine V_getf fl_X6_12 dX6_giveBone_1 (hp1 hA) rfl ?_
    refine Cv1_0 (d := 3) cv_X6_94 dX6_giveBone_4 (t_X5_houseHere_n hA (by decide) h1 hn (by rw [h3, hp0]; rfl)) (hp5 hA (by omega)) rfl rfl (Nat.le_of_ble_eq_true rfl) ⟨Nat.le_refl _, Nat.le_refl _⟩ (by decide) ⟨Nat.le_of_ble_eq_true rfl, Nat.le_of_ble_eq_true rfl⟩ ?_
    refine V_astore_nN (i := 1) dX6_giveBone_7 rfl (by decide) ?_
    refine V_aload_nN (i := 1) dX6_giveBone_8 rfl rfl ?_
    refine V_ifnonnullN dX6_giveBone_9 ?_
    refine V_aload_n (i := 0) dX6_giveBone_12 rfl rfl ?_
    refine V_getf fl_X6_21 dX6_giveBone_13 (hp1 hA) rfl ?_
    refine V_bipush (v := 7) dX6_giveBone_16 (by decide) ?_
    refine V_iconst (v := 0) dX6_giveBone_18 (by decide) ?_
    refine Cv1_2 (d := 3) cv_X6_29 dX6_giveBone_19 (t_X4_refuse hA) (hp2 hA) rfl rfl (Nat.le_of_ble_eq_true rfl) ⟨Nat.le_refl _, Nat.le_refl _⟩ (by decide) ⟨Nat.le_of_ble_eq_true rfl, Nat.le_of_ble_eq_true rfl⟩ ?_
    refine V_iret dX6_giveBone_22 rfl (Nat.le_of_ble_eq_true rfl) (Nat.le_of_ble_eq_true rfl) ?_
    first
      | exact fno (u := σ.1 5 0) (c := 0) (by simp [S_bone, *]) (by decide)
      | exact fok (x := (S_bone_w (σ.1 5 0) (pl - 1) 8)) (u := (S_bone_w (σ.1 5 0) (pl - 1))) (by simp [S_bone, *]) (by simp only [w3_row, row_row, row_at] <;> rfl) (by simp only [w3_row, row_row, row_at] <;> rfl)
  ·
    refine V_aload_n (i := 0) dX6_giveBone_0 rfl rfl ?_
    refine V_getf fl_X6_12 dX6_giveBone_1 (hp1 hA) rfl ?_
    refine Cv1_0 (d := 3) cv_X6_94 dX6_giveBone_4 (t_X5_houseHere_s hA (by decide) h1 hn h3 (by omega) hp) (hp5 hA (by omega)) rfl rfl (Nat.le_of_ble_eq_true rfl) ⟨Nat.le_refl _, Nat.le_refl _⟩ (by decide) ⟨Nat.le_of_ble_eq_true rfl, Nat.le_of_ble_eq_true rfl⟩ ?_
    refine V_astore_n (i := 1) dX6_giveBone_7 rfl (by decide) ?_
    refine V_aload_n (i := 1) dX6_giveBone_8 rfl rfl ?_
    refine V_ifnonnull (tgt := 23) dX6_giveBone_9 (by decide) ?_
    refine V_aload_n (i := 1) dX6_giveBone_23 rfl rfl ?_
    refine V_getf fl_X6_46 dX6_giveBone_24 (hp9 hA (by omega) (by omega)) rfl ?_
    refine V_if_eq (tgt := 37) dX6_giveBone_27 (by decide) (fun h27 => ?_) (fun h27 => ?_)
    · refine V_aload_n (i := 0) dX6_giveBone_37 rfl rfl ?_
      refine V_getf fl_X6_21 dX6_giveBone_38 (hp1 hA) rfl ?_
      refine V_bipush (v := 14) dX6_giveBone_41 (by decide) ?_
      refine V_aload_n (i := 0) dX6_giveBone_43 rfl rfl ?_
      refine V_getf fl_X6_12 dX6_giveBone_44 (hp1 hA) rfl ?_
      refine V_getf fl_X6_68 dX6_giveBone_47 (hp5 hA (by omega)) rfl ?_
      refine V_iconst (v := 1) dX6_giveBone_50 (by decide) ?_
      refine V_isub dX6_giveBone_51 ?_
      refine Cv1_2 (d := 3) cv_X6_29 dX6_giveBone_52 (t_X4_refuse hA) (hp2 hA) rfl rfl (Nat.le_of_ble_eq_true rfl) ⟨Nat.le_refl _, Nat.le_refl _⟩ (by decide) ⟨Nat.le_of_ble_eq_true rfl, Nat.le_of_ble_eq_true rfl⟩ ?_
      refine V_iret dX6_giveBone_55 rfl (Nat.le_of_ble_eq_true rfl) (Nat.le_of_ble_eq_true rfl) ?_
      first
        | exact fno (u := σ.1 5 0) (c := 0) (by simp [S_bone, *]) (by decide)
        | exact fok (x := (S_bone_w (σ.1 5 0) (pl - 1) 8)) (u := (S_bone_w (σ.1 5 0) (pl - 1))) (by simp [S_bone, *]) (by simp only [w3_row, row_row, row_at] <;> rfl) (by simp only [w3_row, row_row, row_at] <;> rfl)
    · refine V_aload_n (i := 1) dX6_giveBone_30 rfl rfl ?_
      refine V_getf fl_X6_131 dX6_giveBone_31 (hp9 hA (by omega) (by omega)) rfl ?_
      refine V_if_eq (tgt := 56) dX6_giveBone_34 (by decide) (fun h34 => ?_) (fun h34 => ?_)
      · refine V_aload_n (i := 0) dX6_giveBone_56 rfl rfl ?_
        refine V_getf fl_X6_12 dX6_giveBone_57 (hp1 hA) rfl ?_
        refine V_getf fl_X6_135 dX6_giveBone_60 (hp5 hA (by omega)) rfl ?_
        refine V_iconst (v := 1) dX6_giveBone_63 (by decide) ?_
        refine V_icmp_ge (tgt := 78) dX6_giveBone_64 (by decide) (fun h64 => ?_) (fun h64 => ?_)
        · refine V_aload_n (i := 1) dX6_giveBone_78 rfl rfl ?_
          refine V_iconst (v := 1) dX6_giveBone_79 (by decide) ?_
          refine VP_9_7 fl_X6_131 dX6_giveBone_80 hA (by omega) (by omega) (Or.inr rfl) ?_
          refine V_aload_n (i := 0) dX6_giveBone_83 rfl rfl ?_
          refine V_getf fl_X6_12 dX6_giveBone_84 (hp1 hA) rfl ?_
          refine V_dup dX6_giveBone_87 rfl ?_
          refine V_getf fl_X6_135 dX6_giveBone_88 (hp5 hA (by omega)) rfl ?_
          refine V_iconst (v := 1) dX6_giveBone_91 (by decide) ?_
          refine V_isub dX6_giveBone_92 ?_
          refine VP_5_10 fl_X6_135 dX6_giveBone_93 hA (by omega) ?_
          refine V_aload_n (i := 0) dX6_giveBone_96 rfl rfl ?_
          refine V_getf fl_X6_12 dX6_giveBone_97 (hp1 hA) rfl ?_
          refine V_getf fl_X6_135 dX6_giveBone_100 (hp5 hA (by omega)) rfl ?_
          refine V_iret dX6_giveBone_103 rfl (Nat.le_of_ble_eq_true rfl) (Nat.le_of_ble_eq_true rfl) ?_
          first
            | exact fno (u := σ.1 5 0) (c := 0) (by simp [S_bone, *]) (by decide)
            | exact fok (x := (S_bone_w (σ.1 5 0) (pl - 1) 8)) (u := (S_bone_w (σ.1 5 0) (pl - 1))) (by simp [S_bone, *]) (by simp only [w3_row, row_row, row_at] <;> rfl) (by simp only [w3_row, row_row, row_at] <;> rfl)
        · refine V_aload_n (i := 0) dX6_giveBone_67 rfl rfl ?_
          refine V_getf fl_X6_21 dX6_giveBone_68 (hp1 hA) rfl ?_
          refine V_bipush (v := 15) dX6_giveBone_71 (by decide) ?_
          refine V_iconst (v := 0) dX6_giveBone_73 (by decide) ?_
          refine Cv1_2 (d := 3) cv_X6_29 dX6_giveBone_74 (t_X4_refuse hA) (hp2 hA) rfl rfl (Nat.le_of_ble_eq_true rfl) ⟨Nat.le_refl _, Nat.le_refl _⟩ (by decide) ⟨Nat.le_of_ble_eq_true rfl, Nat.le_of_ble_eq_true rfl⟩ ?_
          refine V_iret dX6_giveBone_77 rfl (Nat.le_of_ble_eq_true rfl) (Nat.le_of_ble_eq_true rfl) ?_
          first
            | exact fno (u := σ.1 5 0) (c := 0) (by simp [S_bone, *]) (by decide)
            | exact fok (x := (S_bone_w (σ.1 5 0) (pl - 1) 8)) (u := (S_bone_w (σ.1 5 0) (pl - 1))) (by simp [S_bone, *]) (by simp only [w3_row, row_row, row_at] <;> rfl) (by simp only [w3_row, row_row, row_at] <;> rfl)
      · refine V_aload_n (i := 0) dX6_giveBone_37 rfl rfl ?_
        refine V_getf fl_X6_21 dX6_giveBone_38 (hp1 hA) rfl ?_
        refine V_bipush (v := 14) dX6_giveBone_41 (by decide) ?_
        refine V_aload_n (i := 0) dX6_giveBone_43 rfl rfl ?_
        refine V_getf fl_X6_12 dX6_giveBone_44 (hp1 hA) rfl ?_
        refine V_getf fl_X6_68 dX6_giveBone_47 (hp5 hA (by omega)) rfl ?_
        refine V_iconst (v := 1) dX6_giveBone_50 (by decide) ?_
        refine V_isub dX6_giveBone_51 ?_
        refine Cv1_2 (d := 3) cv_X6_29 dX6_giveBone_52 (t_X4_refuse hA) (hp2 hA) rfl rfl (Nat.le_of_ble_eq_true rfl) ⟨Nat.le_refl _, Nat.le_refl _⟩ (by decide) ⟨Nat.le_of_ble_eq_true rfl, Nat.le_of_ble_eq_true rfl⟩ ?_
        refine V_iret dX6_giveBone_55 rfl (Nat.le_of_ble_eq_true rfl) (Nat.le_of_ble_eq_true rfl) ?_
        first
          | exact fno (u := σ.1 5 0) (c := 0) (by simp [S_bone, *]) (by decide)
          | exact fok (x := (S_bone_w (σ.1 5 0) (pl - 1) 8)) (u := (S_bone_w (σ.1 5 0) (pl - 1))) (by simp [S_bone, *]) (by simp only [w3_row, row_row, row_at] <;> rfl) (by simp only [w3_row, row_row, row_at] <;> rfl)

set_option maxHeartbeats 4000000 in
set_option maxRecDepth 100000 in
theorem t_X6_mopStairs {D : va_G} {s0 : State} {l : Launch} {B : Nat} {A : AT} {σ : Sg} (hA : AOK B A) {nh : Nat} (h1 : σ.1 5 0 1 = nI nh) (hn : nh ≤ 8) {nc : Nat} (h2 : σ.1 5 0 2 = nI nc) (hm : nc ≤ 4) {pl : Nat} (h3 : σ.1 5 0 3 = nI pl) (hp : pl ≤ nh) {x : Int32} : Tri D s0 l yX6_mopStairs cX6_mopStairs 6 ((some .int)) 3 0 0 [.ref (A 1 0 0), .int x] (HP A σ) (fun r G' => r = some (.int (wA (S_mop (σ.1 5 0) nc pl x))) ∧ G' = HP A (wS σ (S_mop (σ.1 5 0) nc pl x))) noX := by
  refine Tri.ofV (own := RX6) (mn := "mopStairs") (by decide +kernel) rfl rfl (Nat.le_of_ble_eq_true rfl) ?_
  by_cases ho : ob x 0 (nI nc - 1) = true
  ·
    refine V_aload_n (i := 0) dX6_mopStairs_0 rfl rfl ?_
    refine V_getf fl_X6_12 dX6_mopStairs_1 (hp1 hA) rfl ?_
    refine V_iload_n (i := 1) dX6_mopStairs_4 rfl rfl ?_
    refine Cv1_1 (d := 3) cv_X6_90 dX6_mopStairs_5 (t_X5_carrierAt_n hA (by decide) h2 hm ho) (hp5 hA (by omega)) rfl rfl (Nat.le_of_ble_eq_true rfl) ⟨Nat.le_refl _, Nat.le_refl _⟩ (by decide) ⟨Nat.le_of_ble_eq_true rfl, Nat.le_of_ble_eq_true rfl⟩ ?_
    refine V_astore_nN (i := 2) dX6_mopStairs_8 rfl (by decide) ?_
    refine V_aload_nN (i := 2) dX6_mopStairs_9 rfl rfl ?_
    refine V_ifnonnullN dX6_mopStairs_10 ?_
    refine V_aload_n (i := 0) dX6_mopStairs_13 rfl rfl ?_
    refine V_getf fl_X6_21 dX6_mopStairs_14 (hp1 hA) rfl ?_
    refine V_iconst (v := 3) dX6_mopStairs_17 (by decide) ?_
    refine V_iload_n (i := 1) dX6_mopStairs_18 rfl rfl ?_
    refine Cv1_2 (d := 3) cv_X6_29 dX6_mopStairs_19 (t_X4_refuse hA) (hp2 hA) rfl rfl (Nat.le_of_ble_eq_true rfl) ⟨Nat.le_refl _, Nat.le_refl _⟩ (by decide) ⟨Nat.le_of_ble_eq_true rfl, Nat.le_of_ble_eq_true rfl⟩ ?_
    refine V_iret dX6_mopStairs_22 rfl (Nat.le_of_ble_eq_true rfl) (Nat.le_of_ble_eq_true rfl) ?_
    first
      | exact fno (u := σ.1 5 0) (c := 0) (by simp [S_mop, *]) (by decide)
      | exact fok (x := ((σ.1 5 0) (hx (pl - 1) 5))) (u := (S_mop_w (σ.1 5 0) j (pl - 1))) (by simp [S_mop, *]) rfl (by simp only [w3_row, row_row, row_at] <;> rfl)
  · obtain ⟨j, hj, rfl⟩ := ob_ex (by omega) (Bool.eq_false_iff.mpr ho)
    have hc := nI_clamp (n := j) (by omega)
    by_cases hp0 : pl = 0
    ·
      refine V_aload_n (i := 0) dX6_mopStairs_0 rfl rfl ?_
      refine V_getf fl_X6_12 dX6_mopStairs_1 (hp1 hA) rfl ?_
      refine V_iload_n (i := 1) dX6_mopStairs_4 rfl rfl ?_
      refine Cv1_1 (d := 3) cv_X6_90 dX6_mopStairs_5 (t_X5_carrierAt_s hA (by decide) h2 hm hj) (hp5 hA (by omega)) rfl rfl (Nat.le_of_ble_eq_true rfl) ⟨Nat.le_refl _, Nat.le_refl _⟩ (by decide) ⟨Nat.le_of_ble_eq_true rfl, Nat.le_of_ble_eq_true rfl⟩ ?_
      refine V_astore_n (i := 2) dX6_mopStairs_8 rfl (by decide) ?_
      refine V_aload_n (i := 2) dX6_mopStairs_9 rfl rfl ?_
      refine V_ifnonnull (tgt := 23) dX6_mopStairs_10 (by decide) ?_
      refine V_aload_n (i := 0) dX6_mopStairs_23 rfl rfl ?_
      refine V_getf fl_X6_12 dX6_mopStairs_24 (hp1 hA) rfl ?_
      refine Cv1_0 (d := 3) cv_X6_94 dX6_mopStairs_27 (t_X5_houseHere_n hA (by decide) h1 hn (by rw [h3, hp0]; rfl)) (hp5 hA (by omega)) rfl rfl (Nat.le_of_ble_eq_true rfl) ⟨Nat.le_refl _, Nat.le_refl _⟩ (by decide) ⟨Nat.le_of_ble_eq_true rfl, Nat.le_of_ble_eq_true rfl⟩ ?_
      refine V_astore_nN (i := 3) dX6_mopStairs_30 rfl (by decide) ?_
      refine V_aload_nN (i := 3) dX6_mopStairs_31 rfl rfl ?_
      refine V_ifnonnullN dX6_mopStairs_32 ?_
      refine V_aload_n (i := 0) dX6_mopStairs_35 rfl rfl ?_
      refine V_getf fl_X6_21 dX6_mopStairs_36 (hp1 hA) rfl ?_
      refine V_bipush (v := 7) dX6_mopStairs_39 (by decide) ?_
      refine V_iconst (v := 0) dX6_mopStairs_41 (by decide) ?_
      refine Cv1_2 (d := 3) cv_X6_29 dX6_mopStairs_42 (t_X4_refuse hA) (hp2 hA) rfl rfl (Nat.le_of_ble_eq_true rfl) ⟨Nat.le_refl _, Nat.le_refl _⟩ (by decide) ⟨Nat.le_of_ble_eq_true rfl, Nat.le_of_ble_eq_true rfl⟩ ?_
      refine V_iret dX6_mopStairs_45 rfl (Nat.le_of_ble_eq_true rfl) (Nat.le_of_ble_eq_true rfl) ?_
      first
        | exact fno (u := σ.1 5 0) (c := 0) (by simp [S_mop, *]) (by decide)
        | exact fok (x := ((σ.1 5 0) (hx (pl - 1) 5))) (u := (S_mop_w (σ.1 5 0) j (pl - 1))) (by simp [S_mop, *]) rfl (by simp only [w3_row, row_row, row_at] <;> rfl)
    ·
      refine V_aload_n (i := 0) dX6_mopStairs_0 rfl rfl ?_
      refine V_getf fl_X6_12 dX6_mopStairs_1 (hp1 hA) rfl ?_
      refine V_iload_n (i := 1) dX6_mopStairs_4 rfl rfl ?_
      refine Cv1_1 (d := 3) cv_X6_90 dX6_mopStairs_5 (t_X5_carrierAt_s hA (by decide) h2 hm hj) (hp5 hA (by omega)) rfl rfl (Nat.le_of_ble_eq_true rfl) ⟨Nat.le_refl _, Nat.le_refl _⟩ (by decide) ⟨Nat.le_of_ble_eq_true rfl, Nat.le_of_ble_eq_true rfl⟩ ?_
      refine V_astore_n (i := 2) dX6_mopStairs_8 rfl (by decide) ?_
      refine V_aload_n (i := 2) dX6_mopStairs_9 rfl rfl ?_
      refine V_ifnonnull (tgt := 23) dX6_mopStairs_10 (by decide) ?_
      refine V_aload_n (i := 0) dX6_mopStairs_23 rfl rfl ?_
      refine V_getf fl_X6_12 dX6_mopStairs_24 (hp1 hA) rfl ?_
      refine Cv1_0 (d := 3) cv_X6_94 dX6_mopStairs_27 (t_X5_houseHere_s hA (by decide) h1 hn h3 (by omega) hp) (hp5 hA (by omega)) rfl rfl (Nat.le_of_ble_eq_true rfl) ⟨Nat.le_refl _, Nat.le_refl _⟩ (by decide) ⟨Nat.le_of_ble_eq_true rfl, Nat.le_of_ble_eq_true rfl⟩ ?_
      refine V_astore_n (i := 3) dX6_mopStairs_30 rfl (by decide) ?_
      refine V_aload_n (i := 3) dX6_mopStairs_31 rfl rfl ?_
      refine V_ifnonnull (tgt := 46) dX6_mopStairs_32 (by decide) ?_
      refine V_aload_n (i := 3) dX6_mopStairs_46 rfl rfl ?_
      refine V_getf fl_X6_119 dX6_mopStairs_47 (hp9 hA (by omega) (by omega)) rfl ?_
      refine V_istore (i := 4) dX6_mopStairs_50 (by decide) ?_
      refine V_iload (i := 4) dX6_mopStairs_52 rfl ?_
      refine V_if_ne (tgt := 76) dX6_mopStairs_54 (by decide) (fun h54 => ?_) (fun h54 => ?_)
      · refine V_aload_n (i := 2) dX6_mopStairs_76 rfl rfl ?_
        refine V_getf fl_X6_102 dX6_mopStairs_77 (hp10 hA (by omega) (by omega)) rfl ?_
        refine V_iload (i := 4) dX6_mopStairs_80 rfl ?_
        refine V_iconst (v := 1) dX6_mopStairs_82 (by decide) ?_
        refine V_iadd dX6_mopStairs_83 ?_
        refine V_iconst (v := 2) dX6_mopStairs_84 (by decide) ?_
        refine V_idiv dX6_mopStairs_85 (by decide) ?_
        refine V_iadd dX6_mopStairs_86 ?_
        refine V_istore (i := 5) dX6_mopStairs_87 (by decide) ?_
        refine V_iload (i := 5) dX6_mopStairs_89 rfl ?_
        refine V_bipush (v := 30) dX6_mopStairs_91 (by decide) ?_
        refine V_icmp_le (tgt := 108) dX6_mopStairs_93 (by decide) (fun h93 => ?_) (fun h93 => ?_)
        · replace h93 := Int32.not_lt.mpr h93
          refine V_aload_n (i := 2) dX6_mopStairs_108 rfl rfl ?_
          refine V_iload (i := 5) dX6_mopStairs_109 rfl ?_
          refine VP_10_1 fl_X6_102 dX6_mopStairs_111 hA (by omega) (by omega) ?_
          refine V_aload_n (i := 3) dX6_mopStairs_114 rfl rfl ?_
          refine V_iconst (v := 0) dX6_mopStairs_115 (by decide) ?_
          refine VP_9_5 fl_X6_119 dX6_mopStairs_116 hA (by omega) (by omega) ?_
          refine V_iload (i := 4) dX6_mopStairs_119 rfl ?_
          refine V_iret dX6_mopStairs_121 rfl (Nat.le_of_ble_eq_true rfl) (Nat.le_of_ble_eq_true rfl) ?_
          first
            | exact fno (u := σ.1 5 0) (c := 0) (by simp [S_mop, *]) (by decide)
            | exact fok (x := ((σ.1 5 0) (hx (pl - 1) 5))) (u := (S_mop_w (σ.1 5 0) j (pl - 1))) (by simp [S_mop, *]) rfl (by simp only [w3_row, row_row, row_at] <;> rfl)
        · replace h93 := Int32.not_le.mp h93
          refine V_aload_n (i := 0) dX6_mopStairs_96 rfl rfl ?_
          refine V_getf fl_X6_21 dX6_mopStairs_97 (hp1 hA) rfl ?_
          refine V_bipush (v := 13) dX6_mopStairs_100 (by decide) ?_
          refine V_iload (i := 5) dX6_mopStairs_102 rfl ?_
          refine Cv1_2 (d := 3) cv_X6_29 dX6_mopStairs_104 (t_X4_refuse hA) (hp2 hA) rfl rfl (Nat.le_of_ble_eq_true rfl) ⟨Nat.le_refl _, Nat.le_refl _⟩ (by decide) ⟨Nat.le_of_ble_eq_true rfl, Nat.le_of_ble_eq_true rfl⟩ ?_
          refine V_iret dX6_mopStairs_107 rfl (Nat.le_of_ble_eq_true rfl) (Nat.le_of_ble_eq_true rfl) ?_
          first
            | exact fno (u := σ.1 5 0) (c := 0) (by simp [S_mop, *]) (by decide)
            | exact fok (x := ((σ.1 5 0) (hx (pl - 1) 5))) (u := (S_mop_w (σ.1 5 0) j (pl - 1))) (by simp [S_mop, *]) rfl (by simp only [w3_row, row_row, row_at] <;> rfl)
      · refine V_aload_n (i := 0) dX6_mopStairs_57 rfl rfl ?_
        refine V_getf fl_X6_21 dX6_mopStairs_58 (hp1 hA) rfl ?_
        refine V_bipush (v := 18) dX6_mopStairs_61 (by decide) ?_
        refine V_aload_n (i := 0) dX6_mopStairs_63 rfl rfl ?_
        refine V_getf fl_X6_12 dX6_mopStairs_64 (hp1 hA) rfl ?_
        refine V_getf fl_X6_68 dX6_mopStairs_67 (hp5 hA (by omega)) rfl ?_
        refine V_iconst (v := 1) dX6_mopStairs_70 (by decide) ?_
        refine V_isub dX6_mopStairs_71 ?_
        refine Cv1_2 (d := 3) cv_X6_29 dX6_mopStairs_72 (t_X4_refuse hA) (hp2 hA) rfl rfl (Nat.le_of_ble_eq_true rfl) ⟨Nat.le_refl _, Nat.le_refl _⟩ (by decide) ⟨Nat.le_of_ble_eq_true rfl, Nat.le_of_ble_eq_true rfl⟩ ?_
        refine V_iret dX6_mopStairs_75 rfl (Nat.le_of_ble_eq_true rfl) (Nat.le_of_ble_eq_true rfl) ?_
        first
          | exact fno (u := σ.1 5 0) (c := 0) (by simp [S_mop, *]) (by decide)
          | exact fok (x := ((σ.1 5 0) (hx (pl - 1) 5))) (u := (S_mop_w (σ.1 5 0) j (pl - 1))) (by simp [S_mop, *]) rfl (by simp only [w3_row, row_row, row_at] <;> rfl)

set_option maxHeartbeats 4000000 in
set_option maxRecDepth 100000 in
theorem t_X6_passDays {D : va_G} {s0 : State} {l : Launch} {B : Nat} {A : AT} {σ : Sg} (hA : AOK B A) {nh : Nat} (h1 : σ.1 5 0 1 = nI nh) (hn : nh ≤ 8) {nc : Nat} (h2 : σ.1 5 0 2 = nI nc) (hm : nc ≤ 4) {x : Int32} : Tri D s0 l yX6_passDays cX6_passDays 3 ((some .int)) 3 0 0 [.ref (A 1 0 0), .int x] (HP A σ) (fun r G' => r = some (.int (wA (S_days (σ.1 5 0) nh nc x))) ∧ G' = HP A (wS σ (S_days (σ.1 5 0) nh nc x))) noX := by
  refine Tri.ofV (own := RX6) (mn := "passDays") (by decide +kernel) rfl rfl (Nat.le_of_ble_eq_true rfl) ?_
  refine V_iload_n (i := 1) dX6_passDays_0 rfl rfl ?_
  refine V_iconst (v := 1) dX6_passDays_1 (by decide) ?_
  refine V_bipush (v := 30) dX6_passDays_2 (by decide) ?_
  refine Cn1_3 (d := 3) cn_X6_25 st_X7_isOutside dX6_passDays_4 (t_X7_isOutside hA) (Nat.le_of_ble_eq_true rfl) ⟨Nat.le_refl _, Nat.le_refl _⟩ (by decide) ⟨Nat.le_of_ble_eq_true rfl, Nat.le_of_ble_eq_true rfl⟩ ?_
  refine V_if_eq (tgt := 20) dX6_passDays_7 (by decide) (fun h7 => ?_) (fun h7 => ?_)
  · replace h7 := bi_0.mp h7
    obtain ⟨m, hm1, hm9, rfl⟩ := ob_ex2 (a := 1) (b := 30) (by decide) (by decide) h7
    have hcm := nI_clamp (n := m) (by omega)
    have loop : ∀ n i : Nat, i + n = m → V D s0 RX6 "passDays" cX6_passDays 3 ((some .int)) [] l (rmd 3 0 0) (Zm D s0 0 0 (fun r G' => r = some (.int (wA (S_days (σ.1 5 0) nh nc (nI m)))) ∧ G' = HP A (wS σ (S_days (σ.1 5 0) nh nc (nI m)))) noX) 22 [(0, .ref (A 1 0 0)), (1, .int (nI m)), (2, .int (nI i))] [] (HP A (row σ 5 0 (S_dys (σ.1 5 0) nh nc i))) 0 0 := by
      intro n
      induction n with
      | zero =>
        intro i hi9
        obtain rfl : m = i := by omega
        refine V_iload_n (i := 2) dX6_passDays_22 rfl rfl ?_
        refine V_iload_n (i := 1) dX6_passDays_23 rfl rfl ?_
        refine V_icmp_ge (tgt := 40) dX6_passDays_24 (by decide) (fun _ => ?_) (fun h24 => by first | exact absurd (nI_le (Nat.le_refl _) (by omega)) h24 | exact absurd h24 (nI_le (Nat.le_refl _) (by omega)))
        refine V_aload_n (i := 0) dX6_passDays_40 rfl rfl ?_
        refine V_getf fl_X6_12 dX6_passDays_41 (hp1 hA) rfl ?_
        refine V_iconst (v := nI 3) dX6_passDays_44 (by decide) ?_
        refine Cv1_1 (d := 3) cv_X6_151 dX6_passDays_45 (t_X5_sumOf hA (by decide) (by rw [row_at, S_dys_lo (by decide) (by decide)]; exact h1) hn (by decide)) (hp5 hA (by omega)) rfl rfl (Nat.le_of_ble_eq_true rfl) ⟨Nat.le_refl _, Nat.le_refl _⟩ (by decide) ⟨Nat.le_of_ble_eq_true rfl, Nat.le_of_ble_eq_true rfl⟩ ?_
        refine V_iret dX6_passDays_48 rfl (Nat.le_of_ble_eq_true rfl) (Nat.le_of_ble_eq_true rfl) ?_
        first
          | exact fno (u := σ.1 5 0) (c := 0) (by simp [S_days, *]) (by decide)
          | exact fok (x := S_sum (S_dys (σ.1 5 0) nh nc m) nh 3) (u := S_dys (σ.1 5 0) nh nc m) (by simp [S_days, *]) (by simp only [w3_row, row_row, row_at] <;> rfl) (by simp only [w3_row, row_row, row_at] <;> rfl)
      | succ n ih =>
        intro i hi9
        have k9 := ih (i + 1) (by omega)
        have hi8 : i < m := by omega
        refine V_iload_n (i := 2) dX6_passDays_22 rfl rfl ?_
        refine V_iload_n (i := 1) dX6_passDays_23 rfl rfl ?_
        refine V_icmp_ge (tgt := 40) dX6_passDays_24 (by decide) (fun h24 => by first | exact absurd h24 (nI_ge (by omega) (by omega)) | exact absurd (nI_ge (by omega) (by omega)) h24) (fun _ => ?_)
        refine V_aload_n (i := 0) dX6_passDays_27 rfl rfl ?_
        refine V_getf fl_X6_12 dX6_passDays_28 (hp1 hA) rfl ?_
        refine Cv0_0 (d := 3) cv_X6_148 dX6_passDays_31 (t_X5_beginDay hA (by decide) (by rw [row_at, S_dys_lo (by decide) (by decide)]; exact h1) hn (by rw [row_at, S_dys_lo (by decide) (by decide)]; exact h2) hm) (hp5 hA (by omega)) rfl rfl (Nat.le_of_ble_eq_true rfl) ⟨Nat.le_refl _, Nat.le_refl _⟩ (by decide) ⟨Nat.le_of_ble_eq_true rfl, Nat.le_of_ble_eq_true rfl⟩ ?_
        refine V_iinc (i := 2) dX6_passDays_34 rfl (inc1 _) (by decide) ?_
        refine V_goto (tgt := 22) dX6_passDays_37 (by decide) ?_
        refine V.fin [1, 2, 0] rfl (congrArg (HP A) ?_) k9
        simp only [row_row, row_at] <;> rfl
    refine V_iconst (v := nI 0) dX6_passDays_20 (by decide) ?_
    refine V_istore_n (i := 2) dX6_passDays_21 rfl (by decide) ?_
    refine V.fin [1, 2, 0] rfl (congrArg (HP A) row_self.symm) (loop m 0 (by omega))
  · replace h7 := bi_1.mp h7
    refine V_aload_n (i := 0) dX6_passDays_10 rfl rfl ?_
    refine V_getf fl_X6_21 dX6_passDays_11 (hp1 hA) rfl ?_
    refine V_iconst (v := 1) dX6_passDays_14 (by decide) ?_
    refine V_iconst (v := 0) dX6_passDays_15 (by decide) ?_
    refine Cv1_2 (d := 3) cv_X6_29 dX6_passDays_16 (t_X4_refuse hA) (hp2 hA) rfl rfl (Nat.le_of_ble_eq_true rfl) ⟨Nat.le_refl _, Nat.le_refl _⟩ (by decide) ⟨Nat.le_of_ble_eq_true rfl, Nat.le_of_ble_eq_true rfl⟩ ?_
    refine V_iret dX6_passDays_19 rfl (Nat.le_of_ble_eq_true rfl) (Nat.le_of_ble_eq_true rfl) ?_
    first
      | exact fno (u := σ.1 5 0) (c := 0) (by simp [S_days, *]) (by decide)
      | exact fok (x := S_sum (S_dys (σ.1 5 0) nh nc m) nh 3) (u := S_dys (σ.1 5 0) nh nc m) (by simp [S_days, *]) (by simp only [w3_row, row_row, row_at] <;> rfl) (by simp only [w3_row, row_row, row_at] <;> rfl)

def S_mn (a b : Int32) : Int32 := if b < a then b else a
def S_may (w : Nat → Int32) (pl c : Nat) : Int32 :=
  if pl = 0 then 0 else if 12 < w (hx (pl - 1) 4) then 0 else if 8 < w (hx (pl - 1) 5) then 0 else S_mn 9 (S_mn (S_mn (w 4) (w (hx (pl - 1) 3))) (S_mn (S_lets w (pl - 1)) (S_can w c (pl - 1))))

/-- the command of kind q -/
def S_cmd (w : Nat → Int32) (nh nc pl q : Nat) (a b : Int32) : ST := match q with
  | 0 => S_drive w nh a
  | 1 => S_load w a
  | 2 => S_carry w nc pl a b
  | 3 => S_bone w pl
  | 4 => S_mop w nc pl a
  | 5 => S_pay w nh a b
  | 6 => S_shoe w a
  | _ => S_days w nh nc a

