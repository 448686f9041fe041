/-! the reference's changes -/
theorem hn_c {P : Int32 × Int32} {c : Bool} {a b : Int32} (ha : ¬ a = 0) (h : (hn P c a b).1 = 0) : c = false ∧ P.1 = 0 := by
  unfold hn at h
  by_cases hc : c = true ∧ P.1 = 0
  · rw [if_pos hc] at h
    exact absurd h ha
  · rw [if_neg hc] at h
    refine ⟨?_, h⟩
    cases c with
    | false => rfl
    | true => exact absurd ⟨rfl, h⟩ hc
theorem hn_n {P : Int32 × Int32} {a b : Int32} : hn P false a b = P := if_neg (fun q => by cases q.1)
theorem hn_k {P : Int32 × Int32} {c : Bool} {a b : Int32} (h : ¬ P.1 = 0) : hn P c a b = P := if_neg (fun q => h q.2)
theorem hn_y {P : Int32 × Int32} {a b : Int32} (h : P.1 = 0) : hn P true a b = (a, b) := if_pos ⟨rfl, h⟩
theorem rfin {A : AT} {σ : Sg} {R : ST} {P : Int32 × Int32} {v : Int32} {u : Nat → Int32} (e : R = (P, v, u)) : some (Value.int v) = some (.int R.2.1) ∧ HP A (rs σ P u) = HP A (rs σ R.1 R.2.2) := by
  subst e
  exact ⟨rfl, rfl⟩
theorem beg_f {σ : Sg} {f : Nat} (h : ¬ f = 15) : (beg σ).1 20 0 f = σ.1 20 0 f := (w3_ne (fun q => h q.2.2)).trans (congrFun (row_ne (by omega)) f)
theorem beg_a {σ : Sg} {a : Nat} (h : ¬ a = 20) (h2 : ¬ a = 22) : (beg σ).1 a = σ.1 a := funext fun b => funext fun c => (w3_ne (fun q => h q.1)).trans (congrFun (row_ne (fun q => h2 q.1)) c)
theorem beg_22 {σ : Sg} : (beg σ).1 22 0 = blit (σ.1 22 0) 0 (σ.1 21 0) 0 102 := funext fun c => (w3_ne (fun q => by omega)).trans (congrFun row_at c)
theorem beg_rs {σ : Sg} : beg σ = rs (beg σ) (0, σ.1 20 0 16) (σ.1 21 0) := by
  have h := rs_0 (σ := beg σ) (w3_eq _ _ _ _ _)
  rw [beg_f (by decide), beg_a (by decide) (by decide)] at h
  exact h
def endS (σ : Sg) (cn : Nat) (pl ex : Int32) : Sg := if σ.1 20 0 15 = 0 then remS (w3 σ 20 0 6 0) cn (σ.1 22 0) else refS σ pl ex
theorem t_X8_ends {D : va_G} {s0 : State} {l : Launch} {B : Nat} {A : AT} {σ : Sg} (hA : AOK B A) {cn : Nat} (hcn : σ.1 20 0 5 = nI cn) (hc8 : cn ≤ 8) {v pl ex : Int32} : Tri D s0 l yX8_ends cX8_ends 4 ((some .int)) 2 0 0 [.ref (A 20 0 0), .int v, .int pl, .int ex] (HP A σ) (fun r G' => r = some (.int (if σ.1 20 0 15 = 0 then v else 0)) ∧ G' = HP A (endS σ cn pl ex)) noX := by
  by_cases h : σ.1 20 0 15 = 0
  · rw [endS, if_pos h, if_pos h]
    exact t_X8_ends_y hA h hcn hc8
  · rw [endS, if_neg h, if_neg h]
    exact t_X8_ends_n hA h
def finA (R : ST) : Int32 := if R.1.1 = 0 then R.2.1 else 0
def finS (σ : Sg) (R : ST) (cn : Nat) (pl ex : Int32) : Sg := endS (rs (beg σ) R.1 R.2.2) cn pl ex
theorem ffin {A : AT} {σ : Sg} {R : ST} {P : Int32 × Int32} {v pl ex : Int32} {cn : Nat} {u : Nat → Int32} (e : R = (P, v, u)) : some (Value.int (if (rs (beg σ) P u).1 20 0 15 = 0 then v else 0)) = some (.int (finA R)) ∧ HP A (endS (rs (beg σ) P u) cn pl ex) = HP A (finS σ R cn pl ex) := by
  subst e
  rw [rs_15]
  exact ⟨rfl, rfl⟩
theorem fcn {σ : Sg} {P : Int32 × Int32} {u : Nat → Int32} {cn : Nat} (h : σ.1 20 0 5 = nI cn) : (rs (beg σ) P u).1 20 0 5 = nI cn := (rs_f (by decide)).trans ((beg_f (by decide)).trans h)
abbrev RP_load (u : Nat → Int32) (P : Int32 × Int32) (n : Int32) : Int32 × Int32 := hn (hn (hn (hn P (ob n 1 30) 1 0) (decide (¬ u 3 = 0)) 6 (u 3)) (decide (u 5 < n)) 8 (u 5)) (decide (30 < u 4 + n)) 2 30
def R_load (u : Nat → Int32) (P : Int32 × Int32) (n : Int32) : ST := if (RP_load u P n).1 = 0 then (RP_load u P n, S_load_w u n 4, S_load_w u n) else (RP_load u P n, u 4, u)
abbrev RP_drive (u : Nat → Int32) (P : Int32 × Int32) (x : Int32) : Int32 × Int32 := hn (hn (hn P (ob x 0 (u 1)) 3 x) (decide (x = u 3)) 4 x) (decide (u 3 < x) && decide (S_shoes u < 3)) 5 (S_shoes u)
def R_drive (u : Nat → Int32) (P : Int32 × Int32) (x : Int32) : ST := if (RP_drive u P x).1 = 0 then (RP_drive u P x, S_shoes (S_drive_w u x), S_drive_w u x) else (RP_drive u P x, S_shoes u, u)
abbrev RP_shoe (u : Nat → Int32) (P : Int32 × Int32) (x w : Int32) : Int32 × Int32 := hn (hn (hn (hn P (ob x 0 3) 3 x) (decide (¬ u 3 = 0)) 6 (u 3)) (decide (w = 0)) 19 x) (decide (u 6 < 4)) 16 (4 - u 6)
def R_was (u : Nat → Int32) (x : Int32) : Int32 := if ob x 0 3 = true then 0 else u (10 + x.toNatClampNeg)
def R_shoe_w (u : Nat → Int32) (j : Nat) : Nat → Int32 :=
  let v := up u (10 + j) 0
  up v 6 (v 6 - 4)
def R_shoe (u : Nat → Int32) (P : Int32 × Int32) (x : Int32) : ST := if (RP_shoe u P x (R_was u x)).1 = 0 then (RP_shoe u P x (R_was u x), R_was u x, R_shoe_w u x.toNatClampNeg) else (RP_shoe u P x (R_was u x), R_was u x, u)
abbrev RP_bone1 (u : Nat → Int32) (P : Int32 × Int32) : Int32 × Int32 := hn P (decide (u 3 - 1 < 0)) 7 0
abbrev RP_bone2 (u : Nat → Int32) (P : Int32 × Int32) (h : Nat) : Int32 × Int32 := hn (hn (RP_bone1 u P) (decide (u (hx h 1) = 0) || decide (u (hx h 7) = 1)) 14 (u 3 - 1)) (decide (u 8 = 0)) 15 0
def R_bone (u : Nat → Int32) (P : Int32 × Int32) (pl : Nat) : ST := if (RP_bone1 u P).1 = 0 then (RP_bone2 u P (pl - 1), S_bone_w u (pl - 1) 8, S_bone_w u (pl - 1)) else (RP_bone1 u P, u 8, u)
abbrev RP_bones (u : Nat → Int32) (P : Int32 × Int32) (n : Int32) : Int32 × Int32 := hn (hn P (ob n 1 9) 1 0) (decide (u 6 < n)) 16 (n - u 6)
def R_bones (u : Nat → Int32) (P : Int32 × Int32) (n : Int32) : ST := (RP_bones u P n, S_bones_w u n 8, S_bones_w u n)
abbrev RP_mop1 (u : Nat → Int32) (P : Int32 × Int32) (nc : Nat) (x : Int32) : Int32 × Int32 := hn (hn P (ob x 0 (nI nc - 1)) 3 x) (decide (u 3 - 1 < 0)) 7 0
def mopT (u : Nat → Int32) (c h : Nat) : Int32 := u (kx c 1) + (u (hx h 5) + 1) / 2
abbrev RP_mop2 (u : Nat → Int32) (P : Int32 × Int32) (nc h c : Nat) (x : Int32) : Int32 × Int32 := hn (hn (RP_mop1 u P nc x) (decide (u (hx h 5) = 0)) 18 (u 3 - 1)) (decide (30 < mopT u c h)) 13 (mopT u c h)
def R_mop_w (u : Nat → Int32) (c h : Nat) : Nat → Int32 := up (up u (hx h 5) 0) (kx c 1) (mopT u c h)
def R_mop (u : Nat → Int32) (P : Int32 × Int32) (nc pl : Nat) (x : Int32) : ST := if (RP_mop1 u P nc x).1 = 0 then (RP_mop2 u P nc (pl - 1) x.toNatClampNeg x, u (hx (pl - 1) 5), R_mop_w u x.toNatClampNeg (pl - 1)) else (RP_mop1 u P nc x, 0, u)
abbrev RP_pay1 (u : Nat → Int32) (P : Int32 × Int32) (nh : Nat) (x n : Int32) : Int32 × Int32 := hn (hn P (ob x 0 (nI nh - 1)) 3 x) (ob n 1 99) 1 0
abbrev RP_pay2 (u : Nat → Int32) (P : Int32 × Int32) (nh h : Nat) (x n : Int32) : Int32 × Int32 := hn (RP_pay1 u P nh x n) (decide (u (hx h 4) < n)) 17 (u (hx h 4))
def R_pay (u : Nat → Int32) (P : Int32 × Int32) (nh : Nat) (x n : Int32) : ST := if (RP_pay1 u P nh x n).1 = 0 then (RP_pay2 u P nh x.toNatClampNeg x n, S_pay_w u x.toNatClampNeg n (hx x.toNatClampNeg 4), S_pay_w u x.toNatClampNeg n) else (RP_pay1 u P nh x n, 0, u)
def R_day (w : Nat → Int32) (nh nc : Nat) : Nat → Int32 := S_dayh (S_dayc (up w 0 (w 0 + 1)) nc) (S_new (up w 0 (w 0 + 1))) nh
theorem R_day_lo {w : Nat → Int32} {nh nc j : Nat} (h : j < 14) (h0 : ¬ j = 0) : R_day w nh nc j = w j := by
  unfold R_day
  rw [S_dayh_lo h, S_dayc_lo (by omega), up_ne h0]
def R_dys (w : Nat → Int32) (nh nc : Nat) : Nat → (Nat → Int32)
  | 0 => w
  | i + 1 => R_day (R_dys w nh nc i) nh nc
theorem R_dys_lo {w : Nat → Int32} {nh nc j : Nat} (h : j < 14) (h0 : ¬ j = 0) : ∀ i, R_dys w nh nc i j = w j
  | 0 => rfl
  | i + 1 => by
    unfold R_dys
    rw [R_day_lo h h0, R_dys_lo h h0 i]
abbrev RP_days (P : Int32 × Int32) (x : Int32) : Int32 × Int32 := hn P (ob x 1 30) 1 0
def R_days (u : Nat → Int32) (P : Int32 × Int32) (nh nc : Nat) (x : Int32) : ST := if (RP_days P x).1 = 0 then (RP_days P x, S_sum (R_dys u nh nc x.toNatClampNeg) nh 3, R_dys u nh nc x.toNatClampNeg) else (RP_days P x, S_sum u nh 3, u)
theorem up_self {w : Nat → Int32} {k : Nat} : up w k (w k) = w := by
  funext j
  unfold up
  by_cases h : j = k
  · rw [if_pos h, h]
  · rw [if_neg h]
def R_sack (w : Nat → Int32) (c h : Nat) : Nat → Int32 :=
  let b := if w (kx c 2) + 1 < 9 then w (kx c 2) + 1 else 9
  let w1 := up w (kx c 1) (w (kx c 1) + S_tired w c h)
  let w2 := up w1 (kx c 2) b
  let w3 := up w2 (kx c 3) (w2 (kx c 3) + 1)
  let w4 := up w3 (hx h 5) (w3 (hx h 5) + b / 3)
  let w5 := up w4 (hx h 3) (w4 (hx h 3) - 1)
  let w6 := up w5 (hx h 4) (w5 (hx h 4) + 3)
  let w7 := up w6 (hx h 6) (w6 (hx h 6) + 1)
  let w8 := up w7 (hx h 8) (w7 (hx h 8) + 1)
  up w8 4 (w8 4 - 1)
theorem kh_ne {c f h g : Nat} (hh : h < 8) (hg : g < 9) : ¬ kx c f = hx h g := by
  unfold kx hx
  omega
theorem kl_ne {c f g : Nat} (hg : g < 14) : ¬ kx c f = g := by
  unfold kx
  omega
theorem hl_ne {h f g : Nat} (hg : g < 14) : ¬ hx h f = g := by
  unfold hx
  omega
theorem kk_ne {c f c' g : Nat} (a : f < 4) (b : g < 4) (n : ¬ f = g) : ¬ kx c f = kx c' g := fun q => n ((kx_inj a b).mp q).2
theorem hh_ne {h f h' g : Nat} (a : f < 9) (b : g < 9) (n : ¬ f = g) : ¬ hx h f = hx h' g := fun q => n ((hx_inj a b).mp q).2
theorem R_sack_st {w : Nat → Int32} {c h c' : Nat} (hc : c < 4) (hh : h < 8) : R_sack w c h (kx c' 0) = w (kx c' 0) := by
  unfold R_sack
  rw [up_ne (kl_ne (by decide)), up_ne (kh_ne hh (by decide)), up_ne (kh_ne hh (by decide)), up_ne (kh_ne hh (by decide)), up_ne (kh_ne hh (by decide)), up_ne (kh_ne hh (by decide)), up_ne (kk_ne (by decide) (by decide) (by decide)), up_ne (kk_ne (by decide) (by decide) (by decide)), up_ne (kk_ne (by decide) (by decide) (by decide))]
def R_sks (w : Nat → Int32) (c h : Nat) : Nat → (Nat → Int32)
  | 0 => w
  | i + 1 => R_sack (R_sks w c h i) c h
theorem R_sks_st {w : Nat → Int32} {c h c' : Nat} (hc : c < 4) (hh : h < 8) : ∀ i, R_sks w c h i (kx c' 0) = w (kx c' 0)
  | 0 => rfl
  | i + 1 => by
    unfold R_sks
    rw [R_sack_st hc hh, R_sks_st hc hh i]
abbrev RP_carry1 (u : Nat → Int32) (P : Int32 × Int32) (nc : Nat) (x n : Int32) : Int32 × Int32 := hn (hn (hn P (ob x 0 (nI nc - 1)) 3 x) (ob n 1 9) 1 0) (decide (u 3 - 1 < 0)) 7 0
abbrev RP_carry2 (u : Nat → Int32) (Q : Int32 × Int32) (c h : Nat) (n : Int32) : Int32 × Int32 := hn (hn (hn (hn (hn (hn Q (decide (u 4 < n)) 8 (u 4)) (decide (u (hx h 3) < n)) 9 (u (hx h 3))) (decide (12 < u (hx h 4))) 10 (u (hx h 4))) (decide (8 < u (hx h 5))) 11 (u (hx h 5))) (decide (S_lets u h < n)) 12 (S_lets u h)) (decide (30 < S_carry_t u c h n)) 13 (S_carry_t u c h n)
def R_carry (u : Nat → Int32) (P : Int32 × Int32) (nc pl : Nat) (x n : Int32) : ST := if (RP_carry1 u P nc x n).1 = 0 then (if (RP_carry2 u (RP_carry1 u P nc x n) x.toNatClampNeg (pl - 1) n).1 = 0 then (RP_carry2 u (RP_carry1 u P nc x n) x.toNatClampNeg (pl - 1) n, S_carry_t u x.toNatClampNeg (pl - 1) n, R_sks u x.toNatClampNeg (pl - 1) n.toNatClampNeg) else (RP_carry2 u (RP_carry1 u P nc x n) x.toNatClampNeg (pl - 1) n, S_carry_t u x.toNatClampNeg (pl - 1) n, u)) else (RP_carry1 u P nc x n, 0, u)
abbrev RP_house (u : Nat → Int32) (P : Int32 × Int32) (f d : Int32) : Int32 × Int32 := hn (hn P (ob f 0 9 || ob d 0 2) 1 0) (decide (u 1 = 8)) 2 8
def R_house (u : Nat → Int32) (P : Int32 × Int32) (nh : Nat) (f d : Int32) : ST := if (RP_house u P f d).1 = 0 then (RP_house u P f d, u 1, S_house_w u nh f d) else (RP_house u P f d, u 1, u)
abbrev RP_carrier (u : Nat → Int32) (P : Int32 × Int32) (x : Int32) : Int32 × Int32 := hn (hn P (ob x 1 9) 1 0) (decide (u 2 = 4)) 2 4
def R_carrier (u : Nat → Int32) (P : Int32 × Int32) (nc : Nat) (x : Int32) : ST := if (RP_carrier u P x).1 = 0 then (RP_carrier u P x, u 2, S_carrier_w u nc x) else (RP_carrier u P x, u 2, u)
abbrev RP_order (P : Int32 × Int32) (nh : Nat) (x n : Int32) : Int32 × Int32 := hn (hn P (ob x 0 (nI nh - 1)) 3 x) (ob n 0 4) 1 0
def R_order (u : Nat → Int32) (P : Int32 × Int32) (nh : Nat) (x n : Int32) : ST := if (RP_order P nh x n).1 = 0 then (RP_order P nh x n, u (hx x.toNatClampNeg 2), up u (hx x.toNatClampNeg 2) n) else (RP_order P nh x n, 0, u)

theorem t_X8_ofe {D : va_G} {s0 : State} {l : Launch} {B : Nat} {A : AT} {σ : Sg} (hA : AOK B A) {P : Int32 × Int32} {u : Nat → Int32} {h f : Nat} {x : Int32} (e : x = nI h) (hh : h < 8) (hf : f < 9) : Tri D s0 l yX8_of cX8_of 3 ((some .int)) 0 0 0 [.ref (A 20 0 0), .int x, .int (nI f)] (HP A (rs σ P u)) (fun r G' => r = some (.int (u (hx h f))) ∧ G' = HP A (rs σ P u)) noX := by
  subst e
  exact t_X8_of hA hh hf
theorem t_X8_becomese {D : va_G} {s0 : State} {l : Launch} {B : Nat} {A : AT} {σ : Sg} (hA : AOK B A) {P : Int32 × Int32} {u : Nat → Int32} {h f : Nat} {x y : Int32} (e : x = nI h) (hh : h < 8) (hf : f < 9) : Tri D s0 l yX8_becomes cX8_becomes 4 (none) 0 0 0 [.ref (A 20 0 0), .int x, .int (nI f), .int y] (HP A (rs σ P u)) (fun r G' => r = none ∧ G' = HP A (rs σ P (up u (hx h f) y))) noX := by
  subst e
  exact t_X8_becomes hA hh hf
theorem t_X8_letse {D : va_G} {s0 : State} {l : Launch} {B : Nat} {A : AT} {σ : Sg} (hA : AOK B A) {P : Int32 × Int32} {u : Nat → Int32} {h : Nat} {x : Int32} (e : x = nI h) (hh : h < 8) (hd : u (hx h 1) = 0 ∨ u (hx h 1) = 1 ∨ u (hx h 1) = 2) (hb : u (hx h 7) = 0 ∨ u (hx h 7) = 1) : Tri D s0 l yX8_lets cX8_lets 2 ((some .int)) 1 0 0 [.ref (A 20 0 0), .int x] (HP A (rs σ P u)) (fun r G' => r = some (.int (S_lets u h)) ∧ G' = HP A (rs σ P u)) noX := by
  subst e
  exact t_X8_lets hA hh hd hb
theorem t_X8_tiredBye {D : va_G} {s0 : State} {l : Launch} {B : Nat} {A : AT} {σ : Sg} (hA : AOK B A) {P : Int32 × Int32} {u : Nat → Int32} {c h : Nat} {x : Int32} (e : x = nI h) (hc : c < 4) (hh : h < 8) (ht : 0 < 5 + u (kx c 0)) : Tri D s0 l yX8_tiredBy cX8_tiredBy 3 ((some .int)) 1 0 0 [.ref (A 20 0 0), .int (nI c), .int x] (HP A (rs σ P u)) (fun r G' => r = some (.int (S_tired u c h)) ∧ G' = HP A (rs σ P u)) noX := by
  subst e
  exact t_X8_tiredBy hA hc hh ht
theorem PX2 {P : Int32 × Int32} {c1 c2 : Bool} {a1 b1 a2 b2 : Int32} (h : (hn (hn P c1 a1 b1) c2 a2 b2).1 = 0) (e1 : ¬ a1 = 0) (e2 : ¬ a2 = 0) : c1 = false ∧ c2 = false ∧ P.1 = 0 :=
  ⟨(hn_c e1 (hn_c e2 h).2).1, (hn_c e2 h).1, (hn_c e1 (hn_c e2 h).2).2⟩
theorem PX3 {P : Int32 × Int32} {c1 c2 c3 : Bool} {a1 b1 a2 b2 a3 b3 : Int32} (h : (hn (hn (hn P c1 a1 b1) c2 a2 b2) c3 a3 b3).1 = 0) (e1 : ¬ a1 = 0) (e2 : ¬ a2 = 0) (e3 : ¬ a3 = 0) : c1 = false ∧ c2 = false ∧ c3 = false ∧ P.1 = 0 :=
  ⟨(PX2 (hn_c e3 h).2 e1 e2).1, (PX2 (hn_c e3 h).2 e1 e2).2.1, (hn_c e3 h).1, (PX2 (hn_c e3 h).2 e1 e2).2.2⟩
/-- the cart is at a house -/
theorem pl_1 {x : Int32} {pl : Nat} (h3 : x = nI pl) (q : decide (x - 1 < 0) = false) : 1 ≤ pl ∧ x - 1 = nI (pl - 1) := by
  have h : 1 ≤ pl := by
    rw [decide_eq_false_iff_not, h3] at q
    by_cases z : pl = 0
    · subst z
      exact absurd (by decide) q
    · omega
  exact ⟨h, by rw [h3]; exact pk_sub (a := pl) (b := 1) h⟩

set_option maxHeartbeats 4000000 in
set_option maxRecDepth 100000 in
theorem t_X8_loads {D : va_G} {s0 : State} {l : Launch} {B : Nat} {A : AT} {σ : Sg} (hA : AOK B A) {P : Int32 × Int32} {u : Nat → Int32} {n : Int32} : Tri D s0 l yX8_loads cX8_loads 2 ((some .int)) 1 0 0 [.ref (A 20 0 0), .int n] (HP A (rs σ P u)) (fun r G' => r = some (.int (R_load u P n).2.1) ∧ G' = HP A (rs σ (R_load u P n).1 (R_load u P n).2.2)) noX := by
  refine Tri.ofV (own := RX8) (mn := "loads") (by decide +kernel) rfl rfl (Nat.le_of_ble_eq_true rfl) ?_
  have j93 : V D s0 RX8 "loads" cX8_loads 2 ((some .int)) [] l (rmd 1 0 0) (Zm D s0 0 0 (fun r G' => r = some (.int (R_load u P n).2.1) ∧ G' = HP A (rs σ (R_load u P n).1 (R_load u P n).2.2)) noX) 93 [(0, .ref (A 20 0 0)), (1, .int n)] [.int (bi (decide (30 < u 4 + n))), .ref (A 20 0 0)] (HP A (rs σ (hn (hn (hn P (ob n 1 30) 1 0) (decide (¬ u 3 = 0)) 6 (u 3)) (decide (u 5 < n)) 8 (u 5)) u)) 0 0 := by
    refine V_iconst (v := 2) dX8_loads_93 (by decide) ?_
    refine V_bipush (v := 30) dX8_loads_94 (by decide) ?_
    refine Cv0_3 (d := 1) cv_X8_92 dX8_loads_96 (t_X8_hinders hA) (hp20 hA) rfl rfl (Nat.le_of_ble_eq_true rfl) ⟨Nat.le_refl _, Nat.le_refl _⟩ (by decide) ⟨Nat.le_of_ble_eq_true rfl, Nat.le_of_ble_eq_true rfl⟩ ?_
    refine V_aload_n (i := 0) dX8_loads_99 rfl rfl ?_
    refine V_getf fl_X8_41 dX8_loads_100 (hp20 hA) rfl ?_
    refine V_if_ne (tgt := 126) dX8_loads_103 (by decide) (fun h103 => ?_) (fun h103 => ?_)
    · rw [rs_15] at h103
      refine V_aload_n (i := 0) dX8_loads_126 rfl rfl ?_
      refine V_getf fl_X8_9 dX8_loads_127 (hp20 hA) rfl ?_
      refine V_iconst (v := nI 4) dX8_loads_130 (by decide) ?_
      refine VL_21 dX8_loads_131 hA rfl (by omega) ?_
      refine V_iret dX8_loads_132 rfl (Nat.le_of_ble_eq_true rfl) (Nat.le_of_ble_eq_true rfl) ?_
      refine rfin ?_
      first | (rw [R_load, if_pos h103]; rfl) | (rw [R_load, if_neg h103])
    · rw [rs_15] at h103
      refine V_aload_n (i := 0) dX8_loads_106 rfl rfl ?_
      refine V_getf fl_X8_9 dX8_loads_107 (hp20 hA) rfl ?_
      refine V_iconst (v := nI 5) dX8_loads_110 (by decide) ?_
      refine V_dup2 dX8_loads_111 rfl rfl ?_
      refine VL_21 dX8_loads_112 hA rfl (by omega) ?_
      refine V_iload_n (i := 1) dX8_loads_113 rfl rfl ?_
      refine V_isub dX8_loads_114 ?_
      refine VR_21 dX8_loads_115 hA rfl (by omega) ?_
      refine V_aload_n (i := 0) dX8_loads_116 rfl rfl ?_
      refine V_getf fl_X8_9 dX8_loads_117 (hp20 hA) rfl ?_
      refine V_iconst (v := nI 4) dX8_loads_120 (by decide) ?_
      refine V_dup2 dX8_loads_121 rfl rfl ?_
      refine VL_21 dX8_loads_122 hA rfl (by omega) ?_
      refine V_iload_n (i := 1) dX8_loads_123 rfl rfl ?_
      refine V_iadd dX8_loads_124 ?_
      refine VR_21 dX8_loads_125 hA rfl (by omega) ?_
      refine V_aload_n (i := 0) dX8_loads_126 rfl rfl ?_
      refine V_getf fl_X8_9 dX8_loads_127 (hp20 hA) rfl ?_
      refine V_iconst (v := nI 4) dX8_loads_130 (by decide) ?_
      refine VL_21 dX8_loads_131 hA rfl (by omega) ?_
      refine V_iret dX8_loads_132 rfl (Nat.le_of_ble_eq_true rfl) (Nat.le_of_ble_eq_true rfl) ?_
      refine rfin ?_
      first | (rw [R_load, if_pos h103]; rfl) | (rw [R_load, if_neg h103])
  have j63 : V D s0 RX8 "loads" cX8_loads 2 ((some .int)) [] l (rmd 1 0 0) (Zm D s0 0 0 (fun r G' => r = some (.int (R_load u P n).2.1) ∧ G' = HP A (rs σ (R_load u P n).1 (R_load u P n).2.2)) noX) 63 [(0, .ref (A 20 0 0)), (1, .int n)] [.int (bi (decide (u 5 < n))), .ref (A 20 0 0)] (HP A (rs σ (hn (hn P (ob n 1 30) 1 0) (decide (¬ u 3 = 0)) 6 (u 3)) u)) 0 0 := by
    refine V_bipush (v := 8) dX8_loads_63 (by decide) ?_
    refine V_aload_n (i := 0) dX8_loads_65 rfl rfl ?_
    refine V_getf fl_X8_9 dX8_loads_66 (hp20 hA) rfl ?_
    refine V_iconst (v := nI 5) dX8_loads_69 (by decide) ?_
    refine VL_21 dX8_loads_70 hA rfl (by omega) ?_
    refine Cv0_3 (d := 1) cv_X8_92 dX8_loads_71 (t_X8_hinders hA) (hp20 hA) rfl rfl (Nat.le_of_ble_eq_true rfl) ⟨Nat.le_refl _, Nat.le_refl _⟩ (by decide) ⟨Nat.le_of_ble_eq_true rfl, Nat.le_of_ble_eq_true rfl⟩ ?_
    refine V_aload_n (i := 0) dX8_loads_74 rfl rfl ?_
    refine V_aload_n (i := 0) dX8_loads_75 rfl rfl ?_
    refine V_getf fl_X8_9 dX8_loads_76 (hp20 hA) rfl ?_
    refine V_iconst (v := nI 4) dX8_loads_79 (by decide) ?_
    refine VL_21 dX8_loads_80 hA rfl (by omega) ?_
    refine V_iload_n (i := 1) dX8_loads_81 rfl rfl ?_
    refine V_iadd dX8_loads_82 ?_
    refine V_bipush (v := 30) dX8_loads_83 (by decide) ?_
    refine V_icmp_le (tgt := 92) dX8_loads_85 (by decide) (fun h85 => ?_) (fun h85 => ?_)
    · replace h85 := Int32.not_lt.mpr h85
      refine V_iconst (v := 0) dX8_loads_92 (by decide) ?_
      refine V.fin [0, 1] rfl rfl (V.eqst ?_ j93)
      first
        | (simp [bi, *]; done)
        | (simp_all [bi]; done)
    · replace h85 := Int32.not_le.mp h85
      refine V_iconst (v := 1) dX8_loads_88 (by decide) ?_
      refine V_goto (tgt := 93) dX8_loads_89 (by decide) ?_
      refine V.fin [0, 1] rfl rfl (V.eqst ?_ j93)
      first
        | (simp [bi, *]; done)
        | (simp_all [bi]; done)
  have j36 : V D s0 RX8 "loads" cX8_loads 2 ((some .int)) [] l (rmd 1 0 0) (Zm D s0 0 0 (fun r G' => r = some (.int (R_load u P n).2.1) ∧ G' = HP A (rs σ (R_load u P n).1 (R_load u P n).2.2)) noX) 36 [(0, .ref (A 20 0 0)), (1, .int n)] [.int (bi (decide (¬ u 3 = 0))), .ref (A 20 0 0)] (HP A (rs σ (hn P (ob n 1 30) 1 0) u)) 0 0 := by
    refine V_bipush (v := 6) dX8_loads_36 (by decide) ?_
    refine V_aload_n (i := 0) dX8_loads_38 rfl rfl ?_
    refine V_getf fl_X8_9 dX8_loads_39 (hp20 hA) rfl ?_
    refine V_iconst (v := nI 3) dX8_loads_42 (by decide) ?_
    refine VL_21 dX8_loads_43 hA rfl (by omega) ?_
    refine Cv0_3 (d := 1) cv_X8_92 dX8_loads_44 (t_X8_hinders hA) (hp20 hA) rfl rfl (Nat.le_of_ble_eq_true rfl) ⟨Nat.le_refl _, Nat.le_refl _⟩ (by decide) ⟨Nat.le_of_ble_eq_true rfl, Nat.le_of_ble_eq_true rfl⟩ ?_
    refine V_aload_n (i := 0) dX8_loads_47 rfl rfl ?_
    refine V_aload_n (i := 0) dX8_loads_48 rfl rfl ?_
    refine V_getf fl_X8_9 dX8_loads_49 (hp20 hA) rfl ?_
    refine V_iconst (v := nI 5) dX8_loads_52 (by decide) ?_
    refine VL_21 dX8_loads_53 hA rfl (by omega) ?_
    refine V_iload_n (i := 1) dX8_loads_54 rfl rfl ?_
    refine V_icmp_ge (tgt := 62) dX8_loads_55 (by decide) (fun h55 => ?_) (fun h55 => ?_)
    · replace h55 := Int32.not_lt.mpr h55
      refine V_iconst (v := 0) dX8_loads_62 (by decide) ?_
      refine V.fin [0, 1] rfl rfl (V.eqst ?_ j63)
      first
        | (simp [bi, *]; done)
        | (simp_all [bi]; done)
    · replace h55 := Int32.not_le.mp h55
      refine V_iconst (v := 1) dX8_loads_58 (by decide) ?_
      refine V_goto (tgt := 63) dX8_loads_59 (by decide) ?_
      refine V.fin [0, 1] rfl rfl (V.eqst ?_ j63)
      first
        | (simp [bi, *]; done)
        | (simp_all [bi]; done)
  have j16 : V D s0 RX8 "loads" cX8_loads 2 ((some .int)) [] l (rmd 1 0 0) (Zm D s0 0 0 (fun r G' => r = some (.int (R_load u P n).2.1) ∧ G' = HP A (rs σ (R_load u P n).1 (R_load u P n).2.2)) noX) 16 [(0, .ref (A 20 0 0)), (1, .int n)] [.int (bi (ob n 1 30)), .ref (A 20 0 0)] (HP A (rs σ P u)) 0 0 := by
    refine V_iconst (v := 1) dX8_loads_16 (by decide) ?_
    refine V_iconst (v := 0) dX8_loads_17 (by decide) ?_
    refine Cv0_3 (d := 1) cv_X8_92 dX8_loads_18 (t_X8_hinders hA) (hp20 hA) rfl rfl (Nat.le_of_ble_eq_true rfl) ⟨Nat.le_refl _, Nat.le_refl _⟩ (by decide) ⟨Nat.le_of_ble_eq_true rfl, Nat.le_of_ble_eq_true rfl⟩ ?_
    refine V_aload_n (i := 0) dX8_loads_21 rfl rfl ?_
    refine V_aload_n (i := 0) dX8_loads_22 rfl rfl ?_
    refine V_getf fl_X8_9 dX8_loads_23 (hp20 hA) rfl ?_
    refine V_iconst (v := nI 3) dX8_loads_26 (by decide) ?_
    refine VL_21 dX8_loads_27 hA rfl (by omega) ?_
    refine V_if_eq (tgt := 35) dX8_loads_28 (by decide) (fun h28 => ?_) (fun h28 => ?_)
    · refine V_iconst (v := 0) dX8_loads_35 (by decide) ?_
      refine V.fin [0, 1] rfl rfl (V.eqst ?_ j36)
      first
        | (simp [bi, *]; done)
        | (simp_all [bi]; done)
    · refine V_iconst (v := 1) dX8_loads_31 (by decide) ?_
      refine V_goto (tgt := 36) dX8_loads_32 (by decide) ?_
      refine V.fin [0, 1] rfl rfl (V.eqst ?_ j36)
      first
        | (simp [bi, *]; done)
        | (simp_all [bi]; done)
  refine V_aload_n (i := 0) dX8_loads_0 rfl rfl ?_
  refine V_iload_n (i := 1) dX8_loads_1 rfl rfl ?_
  refine V_iconst (v := 1) dX8_loads_2 (by decide) ?_
  refine V_bipush (v := 30) dX8_loads_3 (by decide) ?_
  refine Cs1_3 (d := 1) cs_X8_66 dX8_loads_5 (t_X8_isIn hA) (Nat.le_of_ble_eq_true rfl) ⟨Nat.le_refl _, Nat.le_refl _⟩ (by decide) ⟨Nat.le_of_ble_eq_true rfl, Nat.le_of_ble_eq_true rfl⟩ ?_
  refine V_if_ne (tgt := 15) dX8_loads_8 (by decide) (fun h8 => ?_) (fun h8 => ?_)
  · replace h8 := bi_1.mp h8
    refine V_iconst (v := 0) dX8_loads_15 (by decide) ?_
    refine V.fin [0, 1] rfl rfl (V.eqst ?_ j16)
    first
      | (simp [bi, *]; done)
      | (simp_all [bi]; done)
  · replace h8 := bi_0.mp h8
    refine V_iconst (v := 1) dX8_loads_11 (by decide) ?_
    refine V_goto (tgt := 16) dX8_loads_12 (by decide) ?_
    refine V.fin [0, 1] rfl rfl (V.eqst ?_ j16)
    first
      | (simp [bi, *]; done)
      | (simp_all [bi]; done)

set_option maxHeartbeats 4000000 in
set_option maxRecDepth 100000 in
theorem t_X8_drives {D : va_G} {s0 : State} {l : Launch} {B : Nat} {A : AT} {σ : Sg} (hA : AOK B A) {P : Int32 × Int32} {u : Nat → Int32} {x : Int32} : Tri D s0 l yX8_drives cX8_drives 4 ((some .int)) 1 0 0 [.ref (A 20 0 0), .int x] (HP A (rs σ P u)) (fun r G' => r = some (.int (R_drive u P x).2.1) ∧ G' = HP A (rs σ (R_drive u P x).1 (R_drive u P x).2.2)) noX := by
  refine Tri.ofV (own := RX8) (mn := "drives") (by decide +kernel) rfl rfl (Nat.le_of_ble_eq_true rfl) ?_
  have j70 : V D s0 RX8 "drives" cX8_drives 4 ((some .int)) [] l (rmd 1 0 0) (Zm D s0 0 0 (fun r G' => r = some (.int (R_drive u P x).2.1) ∧ G' = HP A (rs σ (R_drive u P x).1 (R_drive u P x).2.2)) noX) 70 [(0, .ref (A 20 0 0)), (1, .int x)] [.int (bi (decide (u 3 < x) && decide (S_shoes u < 3))), .ref (A 20 0 0)] (HP A (rs σ (hn (hn P (ob x 0 (u 1)) 3 x) (decide (x = u 3)) 4 x) u)) 0 0 := by
    refine V_iconst (v := 5) dX8_drives_70 (by decide) ?_
    refine V_aload_n (i := 0) dX8_drives_71 rfl rfl ?_
    refine Cv1_0 (d := 1) cv_X8_121 dX8_drives_72 (t_X8_shoes hA) (hp20 hA) rfl rfl (Nat.le_of_ble_eq_true rfl) ⟨Nat.le_refl _, Nat.le_refl _⟩ (by decide) ⟨Nat.le_of_ble_eq_true rfl, Nat.le_of_ble_eq_true rfl⟩ ?_
    refine Cv0_3 (d := 1) cv_X8_92 dX8_drives_75 (t_X8_hinders hA) (hp20 hA) rfl rfl (Nat.le_of_ble_eq_true rfl) ⟨Nat.le_refl _, Nat.le_refl _⟩ (by decide) ⟨Nat.le_of_ble_eq_true rfl, Nat.le_of_ble_eq_true rfl⟩ ?_
    refine V_aload_n (i := 0) dX8_drives_78 rfl rfl ?_
    refine V_getf fl_X8_41 dX8_drives_79 (hp20 hA) rfl ?_
    refine V_if_ne (tgt := 154) dX8_drives_82 (by decide) (fun h82 => ?_) (fun h82 => ?_)
    · rw [rs_15] at h82
      refine V_aload_n (i := 0) dX8_drives_154 rfl rfl ?_
      refine Cv1_0 (d := 1) cv_X8_121 dX8_drives_155 (t_X8_shoes hA) (hp20 hA) rfl rfl (Nat.le_of_ble_eq_true rfl) ⟨Nat.le_refl _, Nat.le_refl _⟩ (by decide) ⟨Nat.le_of_ble_eq_true rfl, Nat.le_of_ble_eq_true rfl⟩ ?_
      refine V_iret dX8_drives_158 rfl (Nat.le_of_ble_eq_true rfl) (Nat.le_of_ble_eq_true rfl) ?_
      refine rfin ?_
      first | (rw [R_drive, if_pos h82]; rfl) | (rw [R_drive, if_neg h82])
    · rw [rs_15] at h82
      have loop : ∀ n i : Nat, i + n = 4 → V D s0 RX8 "drives" cX8_drives 4 ((some .int)) [] l (rmd 1 0 0) (Zm D s0 0 0 (fun r G' => r = some (.int (R_drive u P x).2.1) ∧ G' = HP A (rs σ (R_drive u P x).1 (R_drive u P x).2.2)) noX) 100 [(0, .ref (A 20 0 0)), (1, .int x), (2, .int (if 0 < x - u 3 then x - u 3 else 0)), (3, .int (nI i))] [] (HP A (rs σ (RP_drive u P x) (S_upw u (if 0 < x - u 3 then x - u 3 else 0) i))) 0 0 := by
        intro n
        induction n with
        | zero =>
          intro i hi9
          obtain rfl : 4 = i := by omega
          refine V_iload_n (i := 3) dX8_drives_100 rfl rfl ?_
          refine V_iconst (v := nI 4) dX8_drives_101 (by decide) ?_
          refine V_icmp_ge (tgt := 136) dX8_drives_102 (by decide) (fun _ => ?_) (fun h102 => by first | exact absurd (nI_le (Nat.le_refl 4) (by omega)) h102 | exact absurd h102 (nI_le (Nat.le_refl 4) (by omega)))
          refine V_aload_n (i := 0) dX8_drives_136 rfl rfl ?_
          refine V_getf fl_X8_9 dX8_drives_137 (hp20 hA) rfl ?_
          refine V_bipush (v := nI 9) dX8_drives_140 (by decide) ?_
          refine V_dup2 dX8_drives_142 rfl rfl ?_
          refine VL_21 dX8_drives_143 hA rfl (by omega) ?_
          refine V_iload_n (i := 2) dX8_drives_144 rfl rfl ?_
          refine V_iadd dX8_drives_145 ?_
          refine VR_21 dX8_drives_146 hA rfl (by omega) ?_
          refine V_aload_n (i := 0) dX8_drives_147 rfl rfl ?_
          refine V_getf fl_X8_9 dX8_drives_148 (hp20 hA) rfl ?_
          refine V_iconst (v := nI 3) dX8_drives_151 (by decide) ?_
          refine V_iload_n (i := 1) dX8_drives_152 rfl rfl ?_
          refine VR_21 dX8_drives_153 hA rfl (by omega) ?_
          refine V_aload_n (i := 0) dX8_drives_154 rfl rfl ?_
          refine Cv1_0 (d := 1) cv_X8_121 dX8_drives_155 (t_X8_shoes hA) (hp20 hA) rfl rfl (Nat.le_of_ble_eq_true rfl) ⟨Nat.le_refl _, Nat.le_refl _⟩ (by decide) ⟨Nat.le_of_ble_eq_true rfl, Nat.le_of_ble_eq_true rfl⟩ ?_
          refine V_iret dX8_drives_158 rfl (Nat.le_of_ble_eq_true rfl) (Nat.le_of_ble_eq_true rfl) ?_
          refine rfin ?_
          first | (rw [R_drive, if_pos h82]; rfl) | (rw [R_drive, if_neg h82])
        | succ n ih =>
          intro i hi9
          have k9 := ih (i + 1) (by omega)
          have hi8 : i < 4 := by omega
          refine V_iload_n (i := 3) dX8_drives_100 rfl rfl ?_
          refine V_iconst (v := nI 4) dX8_drives_101 (by decide) ?_
          refine V_icmp_ge (tgt := 136) dX8_drives_102 (by decide) (fun h102 => by first | exact absurd h102 (nI_ge (by omega) (by omega)) | exact absurd (nI_ge (by omega) (by omega)) h102) (fun _ => ?_)
          refine V_aload_n (i := 0) dX8_drives_105 rfl rfl ?_
          refine V_getf fl_X8_9 dX8_drives_106 (hp20 hA) rfl ?_
          refine V_bipush (v := nI 10) dX8_drives_109 (by decide) ?_
          refine V_iload_n (i := 3) dX8_drives_111 rfl rfl ?_
          refine V_iadd dX8_drives_112 ?_
          refine V_bipush (v := 20) dX8_drives_113 (by decide) ?_
          refine V_aload_n (i := 0) dX8_drives_115 rfl rfl ?_
          refine V_getf fl_X8_9 dX8_drives_116 (hp20 hA) rfl ?_
          refine V_bipush (v := nI 10) dX8_drives_119 (by decide) ?_
          refine V_iload_n (i := 3) dX8_drives_121 rfl rfl ?_
          refine V_iadd dX8_drives_122 ?_
          refine VL_21 dX8_drives_123 hA (nI_add _ _) (by omega) ?_
          refine V_iload_n (i := 2) dX8_drives_124 rfl rfl ?_
          refine V_iadd dX8_drives_125 ?_
          refine V_mmin cm_X8_125 dX8_drives_126 (Nat.le_of_ble_eq_true rfl) (Nat.le_of_ble_eq_true rfl) (Nat.le_of_ble_eq_true rfl) (Nat.le_of_ble_eq_true rfl) ?_
          refine VR_21 dX8_drives_129 hA (nI_add _ _) (by omega) ?_
          refine V_iinc (i := 3) dX8_drives_130 rfl (inc1 _) (by decide) ?_
          refine V_goto (tgt := 100) dX8_drives_133 (by decide) ?_
          refine V.fin [1, 2, 3, 0] rfl (congrArg (HP A) ?_) k9
          rfl
      refine V_iconst (v := 0) dX8_drives_85 (by decide) ?_
      refine V_iload_n (i := 1) dX8_drives_86 rfl rfl ?_
      refine V_aload_n (i := 0) dX8_drives_87 rfl rfl ?_
      refine V_getf fl_X8_9 dX8_drives_88 (hp20 hA) rfl ?_
      refine V_iconst (v := nI 3) dX8_drives_91 (by decide) ?_
      refine VL_21 dX8_drives_92 hA rfl (by omega) ?_
      refine V_isub dX8_drives_93 ?_
      refine V_mmax cm_X8_78 dX8_drives_94 (Nat.le_of_ble_eq_true rfl) (Nat.le_of_ble_eq_true rfl) (Nat.le_of_ble_eq_true rfl) (Nat.le_of_ble_eq_true rfl) ?_
      refine V_istore_n (i := 2) dX8_drives_97 rfl (by decide) ?_
      refine V_iconst (v := nI 0) dX8_drives_98 (by decide) ?_
      refine V_istore_n (i := 3) dX8_drives_99 rfl (by decide) ?_
      exact V.fin [2, 3, 1, 0] rfl rfl (loop 4 0 (by omega))
  have j41 : V D s0 RX8 "drives" cX8_drives 4 ((some .int)) [] l (rmd 1 0 0) (Zm D s0 0 0 (fun r G' => r = some (.int (R_drive u P x).2.1) ∧ G' = HP A (rs σ (R_drive u P x).1 (R_drive u P x).2.2)) noX) 41 [(0, .ref (A 20 0 0)), (1, .int x)] [.int (bi (decide (x = u 3))), .ref (A 20 0 0)] (HP A (rs σ (hn P (ob x 0 (u 1)) 3 x) u)) 0 0 := by
    refine V_iconst (v := 4) dX8_drives_41 (by decide) ?_
    refine V_iload_n (i := 1) dX8_drives_42 rfl rfl ?_
    refine Cv0_3 (d := 1) cv_X8_92 dX8_drives_43 (t_X8_hinders hA) (hp20 hA) rfl rfl (Nat.le_of_ble_eq_true rfl) ⟨Nat.le_refl _, Nat.le_refl _⟩ (by decide) ⟨Nat.le_of_ble_eq_true rfl, Nat.le_of_ble_eq_true rfl⟩ ?_
    refine V_aload_n (i := 0) dX8_drives_46 rfl rfl ?_
    refine V_iload_n (i := 1) dX8_drives_47 rfl rfl ?_
    refine V_aload_n (i := 0) dX8_drives_48 rfl rfl ?_
    refine V_getf fl_X8_9 dX8_drives_49 (hp20 hA) rfl ?_
    refine V_iconst (v := nI 3) dX8_drives_52 (by decide) ?_
    refine VL_21 dX8_drives_53 hA rfl (by omega) ?_
    refine V_icmp_le (tgt := 69) dX8_drives_54 (by decide) (fun h54 => ?_) (fun h54 => ?_)
    · replace h54 := Int32.not_lt.mpr h54
      refine V_iconst (v := 0) dX8_drives_69 (by decide) ?_
      refine V.fin [0, 1] rfl rfl (V.eqst ?_ j70)
      first
        | (simp [bi, *]; done)
        | (simp_all [bi]; done)
    · replace h54 := Int32.not_le.mp h54
      refine V_aload_n (i := 0) dX8_drives_57 rfl rfl ?_
      refine Cv1_0 (d := 1) cv_X8_121 dX8_drives_58 (t_X8_shoes hA) (hp20 hA) rfl rfl (Nat.le_of_ble_eq_true rfl) ⟨Nat.le_refl _, Nat.le_refl _⟩ (by decide) ⟨Nat.le_of_ble_eq_true rfl, Nat.le_of_ble_eq_true rfl⟩ ?_
      refine V_iconst (v := 3) dX8_drives_61 (by decide) ?_
      refine V_icmp_ge (tgt := 69) dX8_drives_62 (by decide) (fun h62 => ?_) (fun h62 => ?_)
      · replace h62 := Int32.not_lt.mpr h62
        refine V_iconst (v := 0) dX8_drives_69 (by decide) ?_
        refine V.fin [0, 1] rfl rfl (V.eqst ?_ j70)
        first
          | (simp [bi, *]; done)
          | (simp_all [bi]; done)
      · replace h62 := Int32.not_le.mp h62
        refine V_iconst (v := 1) dX8_drives_65 (by decide) ?_
        refine V_goto (tgt := 70) dX8_drives_66 (by decide) ?_
        refine V.fin [0, 1] rfl rfl (V.eqst ?_ j70)
        first
          | (simp [bi, *]; done)
          | (simp_all [bi]; done)
  have j20 : V D s0 RX8 "drives" cX8_drives 4 ((some .int)) [] l (rmd 1 0 0) (Zm D s0 0 0 (fun r G' => r = some (.int (R_drive u P x).2.1) ∧ G' = HP A (rs σ (R_drive u P x).1 (R_drive u P x).2.2)) noX) 20 [(0, .ref (A 20 0 0)), (1, .int x)] [.int (bi (ob x 0 (u 1))), .ref (A 20 0 0)] (HP A (rs σ P u)) 0 0 := by
    refine V_iconst (v := 3) dX8_drives_20 (by decide) ?_
    refine V_iload_n (i := 1) dX8_drives_21 rfl rfl ?_
    refine Cv0_3 (d := 1) cv_X8_92 dX8_drives_22 (t_X8_hinders hA) (hp20 hA) rfl rfl (Nat.le_of_ble_eq_true rfl) ⟨Nat.le_refl _, Nat.le_refl _⟩ (by decide) ⟨Nat.le_of_ble_eq_true rfl, Nat.le_of_ble_eq_true rfl⟩ ?_
    refine V_aload_n (i := 0) dX8_drives_25 rfl rfl ?_
    refine V_iload_n (i := 1) dX8_drives_26 rfl rfl ?_
    refine V_aload_n (i := 0) dX8_drives_27 rfl rfl ?_
    refine V_getf fl_X8_9 dX8_drives_28 (hp20 hA) rfl ?_
    refine V_iconst (v := nI 3) dX8_drives_31 (by decide) ?_
    refine VL_21 dX8_drives_32 hA rfl (by omega) ?_
    refine V_icmp_ne (tgt := 40) dX8_drives_33 (by decide) (fun h33 => ?_) (fun h33 => ?_)
    · refine V_iconst (v := 0) dX8_drives_40 (by decide) ?_
      refine V.fin [0, 1] rfl rfl (V.eqst ?_ j41)
      first
        | (simp [bi, *]; done)
        | (simp_all [bi]; done)
    · refine V_iconst (v := 1) dX8_drives_36 (by decide) ?_
      refine V_goto (tgt := 41) dX8_drives_37 (by decide) ?_
      refine V.fin [0, 1] rfl rfl (V.eqst ?_ j41)
      first
        | (simp [bi, *]; done)
        | (simp_all [bi]; done)
  refine V_aload_n (i := 0) dX8_drives_0 rfl rfl ?_
  refine V_iload_n (i := 1) dX8_drives_1 rfl rfl ?_
  refine V_iconst (v := 0) dX8_drives_2 (by decide) ?_
  refine V_aload_n (i := 0) dX8_drives_3 rfl rfl ?_
  refine V_getf fl_X8_9 dX8_drives_4 (hp20 hA) rfl ?_
  refine V_iconst (v := nI 1) dX8_drives_7 (by decide) ?_
  refine VL_21 dX8_drives_8 hA rfl (by omega) ?_
  refine Cs1_3 (d := 1) cs_X8_66 dX8_drives_9 (t_X8_isIn hA) (Nat.le_of_ble_eq_true rfl) ⟨Nat.le_refl _, Nat.le_refl _⟩ (by decide) ⟨Nat.le_of_ble_eq_true rfl, Nat.le_of_ble_eq_true rfl⟩ ?_
  refine V_if_ne (tgt := 19) dX8_drives_12 (by decide) (fun h12 => ?_) (fun h12 => ?_)
  · replace h12 := bi_1.mp h12
    refine V_iconst (v := 0) dX8_drives_19 (by decide) ?_
    refine V.fin [0, 1] rfl rfl (V.eqst ?_ j20)
    first
      | (simp [bi, *]; done)
      | (simp_all [bi]; done)
  · replace h12 := bi_0.mp h12
    refine V_iconst (v := 1) dX8_drives_15 (by decide) ?_
    refine V_goto (tgt := 20) dX8_drives_16 (by decide) ?_
    refine V.fin [0, 1] rfl rfl (V.eqst ?_ j20)
    first
      | (simp [bi, *]; done)
      | (simp_all [bi]; done)

set_option maxHeartbeats 4000000 in
set_option maxRecDepth 100000 in
theorem t_X8_shods {D : va_G} {s0 : State} {l : Launch} {B : Nat} {A : AT} {σ : Sg} (hA : AOK B A) {P : Int32 × Int32} {u : Nat → Int32} {x : Int32} : Tri D s0 l yX8_shods cX8_shods 3 ((some .int)) 2 0 0 [.ref (A 20 0 0), .int x] (HP A (rs σ P u)) (fun r G' => r = some (.int (R_shoe u P x).2.1) ∧ G' = HP A (rs σ (R_shoe u P x).1 (R_shoe u P x).2.2)) noX := by
  refine Tri.ofV (own := RX8) (mn := "shods") (by decide +kernel) rfl rfl (Nat.le_of_ble_eq_true rfl) ?_
  by_cases ho : ob x 0 3 = true
  · have hw : R_was u x = 0 := if_pos ho
    have j98 : V D s0 RX8 "shods" cX8_shods 3 ((some .int)) [] l (rmd 2 0 0) (Zm D s0 0 0 (fun r G' => r = some (.int (R_shoe u P x).2.1) ∧ G' = HP A (rs σ (R_shoe u P x).1 (R_shoe u P x).2.2)) noX) 98 [(0, .ref (A 20 0 0)), (1, .int x), (2, .int 0)] [.int (bi (decide (u 6 < 4))), .ref (A 20 0 0)] (HP A (rs σ (hn (hn (hn P (ob x 0 3) 3 x) (decide (¬ u 3 = 0)) 6 (u 3)) (decide (0 = 0)) 19 x) u)) 0 0 := by
      refine V_bipush (v := 16) dX8_shods_98 (by decide) ?_
      refine V_iconst (v := 4) dX8_shods_100 (by decide) ?_
      refine V_aload_n (i := 0) dX8_shods_101 rfl rfl ?_
      refine V_getf fl_X8_9 dX8_shods_102 (hp20 hA) rfl ?_
      refine V_bipush (v := nI 6) dX8_shods_105 (by decide) ?_
      refine VL_21 dX8_shods_107 hA rfl (by omega) ?_
      refine V_isub dX8_shods_108 ?_
      refine Cv0_3 (d := 2) cv_X8_92 dX8_shods_109 (t_X8_hinders hA) (hp20 hA) rfl rfl (Nat.le_of_ble_eq_true rfl) ⟨Nat.le_refl _, Nat.le_refl _⟩ (by decide) ⟨Nat.le_of_ble_eq_true rfl, Nat.le_of_ble_eq_true rfl⟩ ?_
      refine V_aload_n (i := 0) dX8_shods_112 rfl rfl ?_
      refine V_getf fl_X8_41 dX8_shods_113 (hp20 hA) rfl ?_
      refine V_if_ne (tgt := 140) dX8_shods_116 (by decide) (fun _ => ?_) (fun h116 => by first | exact absurd ((by rw [rs_15, ho]; by_cases hP : P.1 = 0 <;> simp [hn, hP])) h116 | exact absurd h116 ((by rw [rs_15, ho]; by_cases hP : P.1 = 0 <;> simp [hn, hP])))
      refine V_iload_n (i := 2) dX8_shods_140 rfl rfl ?_
      refine V_iret dX8_shods_141 rfl (Nat.le_of_ble_eq_true rfl) (Nat.le_of_ble_eq_true rfl) ?_
      refine rfin ?_
      rw [R_shoe, if_neg (by simp only [RP_shoe, hw, ho]; by_cases hP : P.1 = 0 <;> simp [hn, hP]), hw]
      rfl
    have j75 : V D s0 RX8 "shods" cX8_shods 3 ((some .int)) [] l (rmd 2 0 0) (Zm D s0 0 0 (fun r G' => r = some (.int (R_shoe u P x).2.1) ∧ G' = HP A (rs σ (R_shoe u P x).1 (R_shoe u P x).2.2)) noX) 75 [(0, .ref (A 20 0 0)), (1, .int x), (2, .int 0)] [.int (bi (decide (0 = 0))), .ref (A 20 0 0)] (HP A (rs σ (hn (hn P (ob x 0 3) 3 x) (decide (¬ u 3 = 0)) 6 (u 3)) u)) 0 0 := by
      refine V_bipush (v := 19) dX8_shods_75 (by decide) ?_
      refine V_iload_n (i := 1) dX8_shods_77 rfl rfl ?_
      refine Cv0_3 (d := 2) cv_X8_92 dX8_shods_78 (t_X8_hinders hA) (hp20 hA) rfl rfl (Nat.le_of_ble_eq_true rfl) ⟨Nat.le_refl _, Nat.le_refl _⟩ (by decide) ⟨Nat.le_of_ble_eq_true rfl, Nat.le_of_ble_eq_true rfl⟩ ?_
      refine V_aload_n (i := 0) dX8_shods_81 rfl rfl ?_
      refine V_aload_n (i := 0) dX8_shods_82 rfl rfl ?_
      refine V_getf fl_X8_9 dX8_shods_83 (hp20 hA) rfl ?_
      refine V_bipush (v := nI 6) dX8_shods_86 (by decide) ?_
      refine VL_21 dX8_shods_88 hA rfl (by omega) ?_
      refine V_iconst (v := 4) dX8_shods_89 (by decide) ?_
      refine V_icmp_ge (tgt := 97) dX8_shods_90 (by decide) (fun h90 => ?_) (fun h90 => ?_)
      · replace h90 := Int32.not_lt.mpr h90
        refine V_iconst (v := 0) dX8_shods_97 (by decide) ?_
        refine V.fin [0, 1, 2] rfl rfl (V.eqst ?_ j98)
        first
          | (simp [bi, *]; done)
          | (simp_all [bi]; done)
      · replace h90 := Int32.not_le.mp h90
        refine V_iconst (v := 1) dX8_shods_93 (by decide) ?_
        refine V_goto (tgt := 98) dX8_shods_94 (by decide) ?_
        refine V.fin [0, 1, 2] rfl rfl (V.eqst ?_ j98)
        first
          | (simp [bi, *]; done)
          | (simp_all [bi]; done)
    have j54 : V D s0 RX8 "shods" cX8_shods 3 ((some .int)) [] l (rmd 2 0 0) (Zm D s0 0 0 (fun r G' => r = some (.int (R_shoe u P x).2.1) ∧ G' = HP A (rs σ (R_shoe u P x).1 (R_shoe u P x).2.2)) noX) 54 [(0, .ref (A 20 0 0)), (1, .int x), (2, .int 0)] [.int (bi (decide (¬ u 3 = 0))), .ref (A 20 0 0)] (HP A (rs σ (hn P (ob x 0 3) 3 x) u)) 0 0 := by
      refine V_bipush (v := 6) dX8_shods_54 (by decide) ?_
      refine V_aload_n (i := 0) dX8_shods_56 rfl rfl ?_
      refine V_getf fl_X8_9 dX8_shods_57 (hp20 hA) rfl ?_
      refine V_iconst (v := nI 3) dX8_shods_60 (by decide) ?_
      refine VL_21 dX8_shods_61 hA rfl (by omega) ?_
      refine Cv0_3 (d := 2) cv_X8_92 dX8_shods_62 (t_X8_hinders hA) (hp20 hA) rfl rfl (Nat.le_of_ble_eq_true rfl) ⟨Nat.le_refl _, Nat.le_refl _⟩ (by decide) ⟨Nat.le_of_ble_eq_true rfl, Nat.le_of_ble_eq_true rfl⟩ ?_
      refine V_aload_n (i := 0) dX8_shods_65 rfl rfl ?_
      refine V_iload_n (i := 2) dX8_shods_66 rfl rfl ?_
      refine V_if_ne (tgt := 74) dX8_shods_67 (by decide) (fun h67 => ?_) (fun h67 => ?_)
      · refine V_iconst (v := 0) dX8_shods_74 (by decide) ?_
        refine V.fin [0, 1, 2] rfl rfl (V.eqst ?_ j75)
        first
          | (simp [bi, *]; done)
          | (simp_all [bi]; done)
      · refine V_iconst (v := 1) dX8_shods_70 (by decide) ?_
        refine V_goto (tgt := 75) dX8_shods_71 (by decide) ?_
        refine V.fin [0, 1, 2] rfl rfl (V.eqst ?_ j75)
        first
          | (simp [bi, *]; done)
          | (simp_all [bi]; done)
    have j34 : V D s0 RX8 "shods" cX8_shods 3 ((some .int)) [] l (rmd 2 0 0) (Zm D s0 0 0 (fun r G' => r = some (.int (R_shoe u P x).2.1) ∧ G' = HP A (rs σ (R_shoe u P x).1 (R_shoe u P x).2.2)) noX) 34 [(0, .ref (A 20 0 0)), (1, .int x), (2, .int 0)] [.int (bi (ob x 0 3)), .ref (A 20 0 0)] (HP A (rs σ P u)) 0 0 := by
      refine V_iconst (v := 3) dX8_shods_34 (by decide) ?_
      refine V_iload_n (i := 1) dX8_shods_35 rfl rfl ?_
      refine Cv0_3 (d := 2) cv_X8_92 dX8_shods_36 (t_X8_hinders hA) (hp20 hA) rfl rfl (Nat.le_of_ble_eq_true rfl) ⟨Nat.le_refl _, Nat.le_refl _⟩ (by decide) ⟨Nat.le_of_ble_eq_true rfl, Nat.le_of_ble_eq_true rfl⟩ ?_
      refine V_aload_n (i := 0) dX8_shods_39 rfl rfl ?_
      refine V_aload_n (i := 0) dX8_shods_40 rfl rfl ?_
      refine V_getf fl_X8_9 dX8_shods_41 (hp20 hA) rfl ?_
      refine V_iconst (v := nI 3) dX8_shods_44 (by decide) ?_
      refine VL_21 dX8_shods_45 hA rfl (by omega) ?_
      refine V_if_eq (tgt := 53) dX8_shods_46 (by decide) (fun h46 => ?_) (fun h46 => ?_)
      · refine V_iconst (v := 0) dX8_shods_53 (by decide) ?_
        refine V.fin [0, 1, 2] rfl rfl (V.eqst ?_ j54)
        first
          | (simp [bi, *]; done)
          | (simp_all [bi]; done)
      · refine V_iconst (v := 1) dX8_shods_49 (by decide) ?_
        refine V_goto (tgt := 54) dX8_shods_50 (by decide) ?_
        refine V.fin [0, 1, 2] rfl rfl (V.eqst ?_ j54)
        first
          | (simp [bi, *]; done)
          | (simp_all [bi]; done)
    refine V_iload_n (i := 1) dX8_shods_0 rfl rfl ?_
    refine Cs1_1 (d := 2) cs_X8_131 dX8_shods_1 (t_X8_isShoe hA) (Nat.le_of_ble_eq_true rfl) ⟨Nat.le_refl _, Nat.le_refl _⟩ (by decide) ⟨Nat.le_of_ble_eq_true rfl, Nat.le_of_ble_eq_true rfl⟩ ?_
    refine V_if_eq (tgt := 19) dX8_shods_4 (by decide) (fun _ => ?_) (fun h4 => by first | exact absurd ((by rw [ho]; decide)) h4 | exact absurd h4 ((by rw [ho]; decide)))
    refine V_iconst (v := 0) dX8_shods_19 (by decide) ?_
    refine V_istore_n (i := 2) dX8_shods_20 rfl (by decide) ?_
    refine V_aload_n (i := 0) dX8_shods_21 rfl rfl ?_
    refine V_iload_n (i := 1) dX8_shods_22 rfl rfl ?_
    refine Cs1_1 (d := 2) cs_X8_131 dX8_shods_23 (t_X8_isShoe hA) (Nat.le_of_ble_eq_true rfl) ⟨Nat.le_refl _, Nat.le_refl _⟩ (by decide) ⟨Nat.le_of_ble_eq_true rfl, Nat.le_of_ble_eq_true rfl⟩ ?_
    refine V_if_ne (tgt := 33) dX8_shods_26 (by decide) (fun h26 => ?_) (fun h26 => ?_)
    · replace h26 := bi_1.mp h26
      refine V_iconst (v := 0) dX8_shods_33 (by decide) ?_
      refine V.fin [1, 2, 0] rfl rfl (V.eqst ?_ j34)
      first
        | (simp [bi, *]; done)
        | (simp_all [bi]; done)
    · replace h26 := bi_0.mp h26
      refine V_iconst (v := 1) dX8_shods_29 (by decide) ?_
      refine V_goto (tgt := 34) dX8_shods_30 (by decide) ?_
      refine V.fin [1, 2, 0] rfl rfl (V.eqst ?_ j34)
      first
        | (simp [bi, *]; done)
        | (simp_all [bi]; done)
  · obtain ⟨j, -, hj, rfl⟩ := ob_ex2 (a := 0) (b := 3) (by decide) (by decide) (Bool.eq_false_iff.mpr ho)
    have hc := nI_clamp (n := j) (by omega)
    have ho2 := Bool.eq_false_iff.mpr ho
    have hw : R_was u (nI j) = u (10 + j) := by rw [R_was, if_neg ho, hc]
    have j98 : V D s0 RX8 "shods" cX8_shods 3 ((some .int)) [] l (rmd 2 0 0) (Zm D s0 0 0 (fun r G' => r = some (.int (R_shoe u P (nI j)).2.1) ∧ G' = HP A (rs σ (R_shoe u P (nI j)).1 (R_shoe u P (nI j)).2.2)) noX) 98 [(0, .ref (A 20 0 0)), (1, .int (nI j)), (2, .int (u (10 + j)))] [.int (bi (decide (u 6 < 4))), .ref (A 20 0 0)] (HP A (rs σ (hn (hn (hn P (ob (nI j) 0 3) 3 (nI j)) (decide (¬ u 3 = 0)) 6 (u 3)) (decide ((u (10 + j)) = 0)) 19 (nI j)) u)) 0 0 := by
      refine V_bipush (v := 16) dX8_shods_98 (by decide) ?_
      refine V_iconst (v := 4) dX8_shods_100 (by decide) ?_
      refine V_aload_n (i := 0) dX8_shods_101 rfl rfl ?_
      refine V_getf fl_X8_9 dX8_shods_102 (hp20 hA) rfl ?_
      refine V_bipush (v := nI 6) dX8_shods_105 (by decide) ?_
      refine VL_21 dX8_shods_107 hA rfl (by omega) ?_
      refine V_isub dX8_shods_108 ?_
      refine Cv0_3 (d := 2) cv_X8_92 dX8_shods_109 (t_X8_hinders hA) (hp20 hA) rfl rfl (Nat.le_of_ble_eq_true rfl) ⟨Nat.le_refl _, Nat.le_refl _⟩ (by decide) ⟨Nat.le_of_ble_eq_true rfl, Nat.le_of_ble_eq_true rfl⟩ ?_
      refine V_aload_n (i := 0) dX8_shods_112 rfl rfl ?_
      refine V_getf fl_X8_41 dX8_shods_113 (hp20 hA) rfl ?_
      refine V_if_ne (tgt := 140) dX8_shods_116 (by decide) (fun h116 => ?_) (fun h116 => ?_)
      · rw [rs_15] at h116
        refine V_iload_n (i := 2) dX8_shods_140 rfl rfl ?_
        refine V_iret dX8_shods_141 rfl (Nat.le_of_ble_eq_true rfl) (Nat.le_of_ble_eq_true rfl) ?_
        refine rfin ?_
        first | (rw [R_shoe, if_pos (by rw [hw]; exact h116), hw, hc]; rfl) | (rw [R_shoe, if_neg (by rw [hw]; exact h116), hw])
      · rw [rs_15] at h116
        refine V_aload_n (i := 0) dX8_shods_119 rfl rfl ?_
        refine V_getf fl_X8_9 dX8_shods_120 (hp20 hA) rfl ?_
        refine V_bipush (v := nI 10) dX8_shods_123 (by decide) ?_
        refine V_iload_n (i := 1) dX8_shods_125 rfl rfl ?_
        refine V_iadd dX8_shods_126 ?_
        refine V_iconst (v := 0) dX8_shods_127 (by decide) ?_
        refine VR_21 dX8_shods_128 hA (nI_add _ _) (by omega) ?_
        refine V_aload_n (i := 0) dX8_shods_129 rfl rfl ?_
        refine V_getf fl_X8_9 dX8_shods_130 (hp20 hA) rfl ?_
        refine V_bipush (v := nI 6) dX8_shods_133 (by decide) ?_
        refine V_dup2 dX8_shods_135 rfl rfl ?_
        refine VL_21 dX8_shods_136 hA rfl (by omega) ?_
        refine V_iconst (v := 4) dX8_shods_137 (by decide) ?_
        refine V_isub dX8_shods_138 ?_
        refine VR_21 dX8_shods_139 hA rfl (by omega) ?_
        refine V_iload_n (i := 2) dX8_shods_140 rfl rfl ?_
        refine V_iret dX8_shods_141 rfl (Nat.le_of_ble_eq_true rfl) (Nat.le_of_ble_eq_true rfl) ?_
        refine rfin ?_
        first | (rw [R_shoe, if_pos (by rw [hw]; exact h116), hw, hc]; rfl) | (rw [R_shoe, if_neg (by rw [hw]; exact h116), hw])
    have j75 : V D s0 RX8 "shods" cX8_shods 3 ((some .int)) [] l (rmd 2 0 0) (Zm D s0 0 0 (fun r G' => r = some (.int (R_shoe u P (nI j)).2.1) ∧ G' = HP A (rs σ (R_shoe u P (nI j)).1 (R_shoe u P (nI j)).2.2)) noX) 75 [(0, .ref (A 20 0 0)), (1, .int (nI j)), (2, .int (u (10 + j)))] [.int (bi (decide ((u (10 + j)) = 0))), .ref (A 20 0 0)] (HP A (rs σ (hn (hn P (ob (nI j) 0 3) 3 (nI j)) (decide (¬ u 3 = 0)) 6 (u 3)) u)) 0 0 := by
      refine V_bipush (v := 19) dX8_shods_75 (by decide) ?_
      refine V_iload_n (i := 1) dX8_shods_77 rfl rfl ?_
      refine Cv0_3 (d := 2) cv_X8_92 dX8_shods_78 (t_X8_hinders hA) (hp20 hA) rfl rfl (Nat.le_of_ble_eq_true rfl) ⟨Nat.le_refl _, Nat.le_refl _⟩ (by decide) ⟨Nat.le_of_ble_eq_true rfl, Nat.le_of_ble_eq_true rfl⟩ ?_
      refine V_aload_n (i := 0) dX8_shods_81 rfl rfl ?_
      refine V_aload_n (i := 0) dX8_shods_82 rfl rfl ?_
      refine V_getf fl_X8_9 dX8_shods_83 (hp20 hA) rfl ?_
      refine V_bipush (v := nI 6) dX8_shods_86 (by decide) ?_
      refine VL_21 dX8_shods_88 hA rfl (by omega) ?_
      refine V_iconst (v := 4) dX8_shods_89 (by decide) ?_
      refine V_icmp_ge (tgt := 97) dX8_shods_90 (by decide) (fun h90 => ?_) (fun h90 => ?_)
      · replace h90 := Int32.not_lt.mpr h90
        refine V_iconst (v := 0) dX8_shods_97 (by decide) ?_
        refine V.fin [0, 1, 2] rfl rfl (V.eqst ?_ j98)
        first
          | (simp [bi, *]; done)
          | (simp_all [bi]; done)
      · replace h90 := Int32.not_le.mp h90
        refine V_iconst (v := 1) dX8_shods_93 (by decide) ?_
        refine V_goto (tgt := 98) dX8_shods_94 (by decide) ?_
        refine V.fin [0, 1, 2] rfl rfl (V.eqst ?_ j98)
        first
          | (simp [bi, *]; done)
          | (simp_all [bi]; done)
    have j54 : V D s0 RX8 "shods" cX8_shods 3 ((some .int)) [] l (rmd 2 0 0) (Zm D s0 0 0 (fun r G' => r = some (.int (R_shoe u P (nI j)).2.1) ∧ G' = HP A (rs σ (R_shoe u P (nI j)).1 (R_shoe u P (nI j)).2.2)) noX) 54 [(0, .ref (A 20 0 0)), (1, .int (nI j)), (2, .int (u (10 + j)))] [.int (bi (decide (¬ u 3 = 0))), .ref (A 20 0 0)] (HP A (rs σ (hn P (ob (nI j) 0 3) 3 (nI j)) u)) 0 0 := by
      refine V_bipush (v := 6) dX8_shods_54 (by decide) ?_
      refine V_aload_n (i := 0) dX8_shods_56 rfl rfl ?_
      refine V_getf fl_X8_9 dX8_shods_57 (hp20 hA) rfl ?_
      refine V_iconst (v := nI 3) dX8_shods_60 (by decide) ?_
      refine VL_21 dX8_shods_61 hA rfl (by omega) ?_
      refine Cv0_3 (d := 2) cv_X8_92 dX8_shods_62 (t_X8_hinders hA) (hp20 hA) rfl rfl (Nat.le_of_ble_eq_true rfl) ⟨Nat.le_refl _, Nat.le_refl _⟩ (by decide) ⟨Nat.le_of_ble_eq_true rfl, Nat.le_of_ble_eq_true rfl⟩ ?_
      refine V_aload_n (i := 0) dX8_shods_65 rfl rfl ?_
      refine V_iload_n (i := 2) dX8_shods_66 rfl rfl ?_
      refine V_if_ne (tgt := 74) dX8_shods_67 (by decide) (fun h67 => ?_) (fun h67 => ?_)
      · refine V_iconst (v := 0) dX8_shods_74 (by decide) ?_
        refine V.fin [0, 1, 2] rfl rfl (V.eqst ?_ j75)
        first
          | (simp [bi, *]; done)
          | (simp_all [bi]; done)
      · refine V_iconst (v := 1) dX8_shods_70 (by decide) ?_
        refine V_goto (tgt := 75) dX8_shods_71 (by decide) ?_
        refine V.fin [0, 1, 2] rfl rfl (V.eqst ?_ j75)
        first
          | (simp [bi, *]; done)
          | (simp_all [bi]; done)
    have j34 : V D s0 RX8 "shods" cX8_shods 3 ((some .int)) [] l (rmd 2 0 0) (Zm D s0 0 0 (fun r G' => r = some (.int (R_shoe u P (nI j)).2.1) ∧ G' = HP A (rs σ (R_shoe u P (nI j)).1 (R_shoe u P (nI j)).2.2)) noX) 34 [(0, .ref (A 20 0 0)), (1, .int (nI j)), (2, .int (u (10 + j)))] [.int (bi (ob (nI j) 0 3)), .ref (A 20 0 0)] (HP A (rs σ P u)) 0 0 := by
      refine V_iconst (v := 3) dX8_shods_34 (by decide) ?_
      refine V_iload_n (i := 1) dX8_shods_35 rfl rfl ?_
      refine Cv0_3 (d := 2) cv_X8_92 dX8_shods_36 (t_X8_hinders hA) (hp20 hA) rfl rfl (Nat.le_of_ble_eq_true rfl) ⟨Nat.le_refl _, Nat.le_refl _⟩ (by decide) ⟨Nat.le_of_ble_eq_true rfl, Nat.le_of_ble_eq_true rfl⟩ ?_
      refine V_aload_n (i := 0) dX8_shods_39 rfl rfl ?_
      refine V_aload_n (i := 0) dX8_shods_40 rfl rfl ?_
      refine V_getf fl_X8_9 dX8_shods_41 (hp20 hA) rfl ?_
      refine V_iconst (v := nI 3) dX8_shods_44 (by decide) ?_
      refine VL_21 dX8_shods_45 hA rfl (by omega) ?_
      refine V_if_eq (tgt := 53) dX8_shods_46 (by decide) (fun h46 => ?_) (fun h46 => ?_)
      · refine V_iconst (v := 0) dX8_shods_53 (by decide) ?_
        refine V.fin [0, 1, 2] rfl rfl (V.eqst ?_ j54)
        first
          | (simp [bi, *]; done)
          | (simp_all [bi]; done)
      · refine V_iconst (v := 1) dX8_shods_49 (by decide) ?_
        refine V_goto (tgt := 54) dX8_shods_50 (by decide) ?_
        refine V.fin [0, 1, 2] rfl rfl (V.eqst ?_ j54)
        first
          | (simp [bi, *]; done)
          | (simp_all [bi]; done)
    refine V_iload_n (i := 1) dX8_shods_0 rfl rfl ?_
    refine Cs1_1 (d := 2) cs_X8_131 dX8_shods_1 (t_X8_isShoe hA) (Nat.le_of_ble_eq_true rfl) ⟨Nat.le_refl _, Nat.le_refl _⟩ (by decide) ⟨Nat.le_of_ble_eq_true rfl, Nat.le_of_ble_eq_true rfl⟩ ?_
    refine V_if_eq (tgt := 19) dX8_shods_4 (by decide) (fun h4 => by first | exact absurd h4 ((by rw [ho2]; decide)) | exact absurd ((by rw [ho2]; decide)) h4) (fun _ => ?_)
    refine V_aload_n (i := 0) dX8_shods_7 rfl rfl ?_
    refine V_getf fl_X8_9 dX8_shods_8 (hp20 hA) rfl ?_
    refine V_bipush (v := nI 10) dX8_shods_11 (by decide) ?_
    refine V_iload_n (i := 1) dX8_shods_13 rfl rfl ?_
    refine V_iadd dX8_shods_14 ?_
    refine VL_21 dX8_shods_15 hA (nI_add _ _) (by omega) ?_
    refine V_goto (tgt := 20) dX8_shods_16 (by decide) ?_
    refine V_istore_n (i := 2) dX8_shods_20 rfl (by decide) ?_
    refine V_aload_n (i := 0) dX8_shods_21 rfl rfl ?_
    refine V_iload_n (i := 1) dX8_shods_22 rfl rfl ?_
    refine Cs1_1 (d := 2) cs_X8_131 dX8_shods_23 (t_X8_isShoe hA) (Nat.le_of_ble_eq_true rfl) ⟨Nat.le_refl _, Nat.le_refl _⟩ (by decide) ⟨Nat.le_of_ble_eq_true rfl, Nat.le_of_ble_eq_true rfl⟩ ?_
    refine V_if_ne (tgt := 33) dX8_shods_26 (by decide) (fun h26 => ?_) (fun h26 => ?_)
    · replace h26 := bi_1.mp h26
      refine V_iconst (v := 0) dX8_shods_33 (by decide) ?_
      refine V.fin [1, 2, 0] rfl rfl (V.eqst ?_ j34)
      first
        | (simp [bi, *]; done)
        | (simp_all [bi]; done)
    · replace h26 := bi_0.mp h26
      refine V_iconst (v := 1) dX8_shods_29 (by decide) ?_
      refine V_goto (tgt := 34) dX8_shods_30 (by decide) ?_
      refine V.fin [1, 2, 0] rfl rfl (V.eqst ?_ j34)
      first
        | (simp [bi, *]; done)
        | (simp_all [bi]; done)

set_option maxHeartbeats 4000000 in
set_option maxRecDepth 100000 in
theorem t_X8_givesBone {D : va_G} {s0 : State} {l : Launch} {B : Nat} {A : AT} {σ : Sg} (hA : AOK B A) {P : Int32 × Int32} {u : Nat → Int32} {pl : Nat} (h3 : u 3 = nI pl) (hp : pl ≤ 8) : Tri D s0 l yX8_givesBone cX8_givesBone 2 ((some .int)) 1 0 0 [.ref (A 20 0 0)] (HP A (rs σ P u)) (fun r G' => r = some (.int (R_bone u P pl).2.1) ∧ G' = HP A (rs σ (R_bone u P pl).1 (R_bone u P pl).2.2)) noX := by
  refine Tri.ofV (own := RX8) (mn := "givesBone") (by decide +kernel) rfl rfl (Nat.le_of_ble_eq_true rfl) ?_
  have j15 : V D s0 RX8 "givesBone" cX8_givesBone 2 ((some .int)) [] l (rmd 1 0 0) (Zm D s0 0 0 (fun r G' => r = some (.int (R_bone u P pl).2.1) ∧ G' = HP A (rs σ (R_bone u P pl).1 (R_bone u P pl).2.2)) noX) 15 [(0, .ref (A 20 0 0)), (1, .int (u 3 - 1))] [.int (bi (decide (u 3 - 1 < 0))), .ref (A 20 0 0)] (HP A (rs σ P u)) 0 0 := by
    refine V_bipush (v := 7) dX8_givesBone_15 (by decide) ?_
    refine V_iconst (v := 0) dX8_givesBone_17 (by decide) ?_
    refine Cv0_3 (d := 1) cv_X8_92 dX8_givesBone_18 (t_X8_hinders hA) (hp20 hA) rfl rfl (Nat.le_of_ble_eq_true rfl) ⟨Nat.le_refl _, Nat.le_refl _⟩ (by decide) ⟨Nat.le_of_ble_eq_true rfl, Nat.le_of_ble_eq_true rfl⟩ ?_
    refine V_aload_n (i := 0) dX8_givesBone_21 rfl rfl ?_
    refine V_getf fl_X8_41 dX8_givesBone_22 (hp20 hA) rfl ?_
    refine V_if_ne (tgt := 101) dX8_givesBone_25 (by decide) (fun h25 => ?_) (fun h25 => ?_)
    · rw [rs_15] at h25
      refine V_aload_n (i := 0) dX8_givesBone_101 rfl rfl ?_
      refine V_getf fl_X8_9 dX8_givesBone_102 (hp20 hA) rfl ?_
      refine V_bipush (v := nI 8) dX8_givesBone_105 (by decide) ?_
      refine VL_21 dX8_givesBone_107 hA rfl (by omega) ?_
      refine V_iret dX8_givesBone_108 rfl (Nat.le_of_ble_eq_true rfl) (Nat.le_of_ble_eq_true rfl) ?_
      refine rfin ?_
      rw [R_bone, if_neg h25]
    · rw [rs_15] at h25
      have hh9 := pl_1 h3 (hn_c (by decide) h25).1
      have j76 : V D s0 RX8 "givesBone" cX8_givesBone 2 ((some .int)) [] l (rmd 1 0 0) (Zm D s0 0 0 (fun r G' => r = some (.int (R_bone u P pl).2.1) ∧ G' = HP A (rs σ (R_bone u P pl).1 (R_bone u P pl).2.2)) noX) 76 [(0, .ref (A 20 0 0)), (1, .int (u 3 - 1))] [.int (bi (decide (u 8 = 0))), .ref (A 20 0 0)] (HP A (rs σ (hn (RP_bone1 u P) (decide (u (hx (pl - 1) 1) = 0) || decide (u (hx (pl - 1) 7) = 1)) 14 (u 3 - 1)) u)) 0 0 := by
        refine V_bipush (v := 15) dX8_givesBone_76 (by decide) ?_
        refine V_iconst (v := 0) dX8_givesBone_78 (by decide) ?_
        refine Cv0_3 (d := 1) cv_X8_92 dX8_givesBone_79 (t_X8_hinders hA) (hp20 hA) rfl rfl (Nat.le_of_ble_eq_true rfl) ⟨Nat.le_refl _, Nat.le_refl _⟩ (by decide) ⟨Nat.le_of_ble_eq_true rfl, Nat.le_of_ble_eq_true rfl⟩ ?_
        refine V_aload_n (i := 0) dX8_givesBone_82 rfl rfl ?_
        refine V_iload_n (i := 1) dX8_givesBone_83 rfl rfl ?_
        refine V_bipush (v := nI 7) dX8_givesBone_84 (by decide) ?_
        refine V_iconst (v := 1) dX8_givesBone_86 (by decide) ?_
        refine Cv0_3 (d := 1) cv_X8_96 dX8_givesBone_87 (t_X8_becomese hA hh9.2 (by omega) (by decide)) (hp20 hA) rfl rfl (Nat.le_of_ble_eq_true rfl) ⟨Nat.le_refl _, Nat.le_refl _⟩ (by decide) ⟨Nat.le_of_ble_eq_true rfl, Nat.le_of_ble_eq_true rfl⟩ ?_
        refine V_aload_n (i := 0) dX8_givesBone_90 rfl rfl ?_
        refine V_getf fl_X8_9 dX8_givesBone_91 (hp20 hA) rfl ?_
        refine V_bipush (v := nI 8) dX8_givesBone_94 (by decide) ?_
        refine V_dup2 dX8_givesBone_96 rfl rfl ?_
        refine VL_21 dX8_givesBone_97 hA rfl (by omega) ?_
        refine V_iconst (v := 1) dX8_givesBone_98 (by decide) ?_
        refine V_isub dX8_givesBone_99 ?_
        refine VR_21 dX8_givesBone_100 hA rfl (by omega) ?_
        refine V_aload_n (i := 0) dX8_givesBone_101 rfl rfl ?_
        refine V_getf fl_X8_9 dX8_givesBone_102 (hp20 hA) rfl ?_
        refine V_bipush (v := nI 8) dX8_givesBone_105 (by decide) ?_
        refine VL_21 dX8_givesBone_107 hA rfl (by omega) ?_
        refine V_iret dX8_givesBone_108 rfl (Nat.le_of_ble_eq_true rfl) (Nat.le_of_ble_eq_true rfl) ?_
        refine rfin ?_
        rw [R_bone, if_pos h25]
        rfl
      have j54 : V D s0 RX8 "givesBone" cX8_givesBone 2 ((some .int)) [] l (rmd 1 0 0) (Zm D s0 0 0 (fun r G' => r = some (.int (R_bone u P pl).2.1) ∧ G' = HP A (rs σ (R_bone u P pl).1 (R_bone u P pl).2.2)) noX) 54 [(0, .ref (A 20 0 0)), (1, .int (u 3 - 1))] [.int (bi (decide (u (hx (pl - 1) 1) = 0) || decide (u (hx (pl - 1) 7) = 1))), .ref (A 20 0 0)] (HP A (rs σ (RP_bone1 u P) u)) 0 0 := by
        refine V_bipush (v := 14) dX8_givesBone_54 (by decide) ?_
        refine V_iload_n (i := 1) dX8_givesBone_56 rfl rfl ?_
        refine Cv0_3 (d := 1) cv_X8_92 dX8_givesBone_57 (t_X8_hinders hA) (hp20 hA) rfl rfl (Nat.le_of_ble_eq_true rfl) ⟨Nat.le_refl _, Nat.le_refl _⟩ (by decide) ⟨Nat.le_of_ble_eq_true rfl, Nat.le_of_ble_eq_true rfl⟩ ?_
        refine V_aload_n (i := 0) dX8_givesBone_60 rfl rfl ?_
        refine V_aload_n (i := 0) dX8_givesBone_61 rfl rfl ?_
        refine V_getf fl_X8_9 dX8_givesBone_62 (hp20 hA) rfl ?_
        refine V_bipush (v := nI 8) dX8_givesBone_65 (by decide) ?_
        refine VL_21 dX8_givesBone_67 hA rfl (by omega) ?_
        refine V_if_ne (tgt := 75) dX8_givesBone_68 (by decide) (fun h68 => ?_) (fun h68 => ?_)
        · refine V_iconst (v := 0) dX8_givesBone_75 (by decide) ?_
          refine V.fin [0, 1] rfl rfl (V.eqst ?_ j76)
          first
            | (simp [bi, *]; done)
            | (simp_all [bi]; done)
        · refine V_iconst (v := 1) dX8_givesBone_71 (by decide) ?_
          refine V_goto (tgt := 76) dX8_givesBone_72 (by decide) ?_
          refine V.fin [0, 1] rfl rfl (V.eqst ?_ j76)
          first
            | (simp [bi, *]; done)
            | (simp_all [bi]; done)
      refine V_aload_n (i := 0) dX8_givesBone_28 rfl rfl ?_
      refine V_aload_n (i := 0) dX8_givesBone_29 rfl rfl ?_
      refine V_iload_n (i := 1) dX8_givesBone_30 rfl rfl ?_
      refine V_iconst (v := nI 1) dX8_givesBone_31 (by decide) ?_
      refine Cv1_2 (d := 1) cv_X8_74 dX8_givesBone_32 (t_X8_ofe hA hh9.2 (by omega) (by decide)) (hp20 hA) rfl rfl (Nat.le_of_ble_eq_true rfl) ⟨Nat.le_refl _, Nat.le_refl _⟩ (by decide) ⟨Nat.le_of_ble_eq_true rfl, Nat.le_of_ble_eq_true rfl⟩ ?_
      refine V_if_eq (tgt := 49) dX8_givesBone_35 (by decide) (fun h35 => ?_) (fun h35 => ?_)
      · refine V_iconst (v := 1) dX8_givesBone_49 (by decide) ?_
        refine V_goto (tgt := 54) dX8_givesBone_50 (by decide) ?_
        refine V.fin [0, 1] rfl rfl (V.eqst ?_ j54)
        first
          | (simp [bi, *]; done)
          | (simp_all [bi]; done)
      · refine V_aload_n (i := 0) dX8_givesBone_38 rfl rfl ?_
        refine V_iload_n (i := 1) dX8_givesBone_39 rfl rfl ?_
        refine V_bipush (v := nI 7) dX8_givesBone_40 (by decide) ?_
        refine Cv1_2 (d := 1) cv_X8_74 dX8_givesBone_42 (t_X8_ofe hA hh9.2 (by omega) (by decide)) (hp20 hA) rfl rfl (Nat.le_of_ble_eq_true rfl) ⟨Nat.le_refl _, Nat.le_refl _⟩ (by decide) ⟨Nat.le_of_ble_eq_true rfl, Nat.le_of_ble_eq_true rfl⟩ ?_
        refine V_iconst (v := 1) dX8_givesBone_45 (by decide) ?_
        refine V_icmp_ne (tgt := 53) dX8_givesBone_46 (by decide) (fun h46 => ?_) (fun h46 => ?_)
        · refine V_iconst (v := 0) dX8_givesBone_53 (by decide) ?_
          refine V.fin [0, 1] rfl rfl (V.eqst ?_ j54)
          first
            | (simp [bi, *]; done)
            | (simp_all [bi]; done)
        · refine V_iconst (v := 1) dX8_givesBone_49 (by decide) ?_
          refine V_goto (tgt := 54) dX8_givesBone_50 (by decide) ?_
          refine V.fin [0, 1] rfl rfl (V.eqst ?_ j54)
          first
            | (simp [bi, *]; done)
            | (simp_all [bi]; done)
  refine V_aload_n (i := 0) dX8_givesBone_0 rfl rfl ?_
  refine Cv1_0 (d := 1) cv_X8_137 dX8_givesBone_1 (t_X8_here hA) (hp20 hA) rfl rfl (Nat.le_of_ble_eq_true rfl) ⟨Nat.le_refl _, Nat.le_refl _⟩ (by decide) ⟨Nat.le_of_ble_eq_true rfl, Nat.le_of_ble_eq_true rfl⟩ ?_
  refine V_istore_n (i := 1) dX8_givesBone_4 rfl (by decide) ?_
  refine V_aload_n (i := 0) dX8_givesBone_5 rfl rfl ?_
  refine V_iload_n (i := 1) dX8_givesBone_6 rfl rfl ?_
  refine V_if_ge (tgt := 14) dX8_givesBone_7 (by decide) (fun h7 => ?_) (fun h7 => ?_)
  · replace h7 : ¬ u 3 - 1 < 0 := Int32.not_lt.mpr h7
    refine V_iconst (v := 0) dX8_givesBone_14 (by decide) ?_
    refine V.fin [1, 0] rfl rfl (V.eqst ?_ j15)
    first
      | (simp [bi, *]; done)
      | (simp_all [bi]; done)
  · replace h7 : u 3 - 1 < 0 := Int32.not_le.mp h7
    refine V_iconst (v := 1) dX8_givesBone_10 (by decide) ?_
    refine V_goto (tgt := 15) dX8_givesBone_11 (by decide) ?_
    refine V.fin [1, 0] rfl rfl (V.eqst ?_ j15)
    first
      | (simp [bi, *]; done)
      | (simp_all [bi]; done)

set_option maxHeartbeats 4000000 in
set_option maxRecDepth 100000 in
theorem t_X8_pays {D : va_G} {s0 : State} {l : Launch} {B : Nat} {A : AT} {σ : Sg} (hA : AOK B A) {P : Int32 × Int32} {u : Nat → Int32} {nh : Nat} (h1 : u 1 = nI nh) (hn8 : nh ≤ 8) {x n : Int32} : Tri D s0 l yX8_pays cX8_pays 3 ((some .int)) 2 0 0 [.ref (A 20 0 0), .int x, .int n] (HP A (rs σ P u)) (fun r G' => r = some (.int (R_pay u P nh x n).2.1) ∧ G' = HP A (rs σ (R_pay u P nh x n).1 (R_pay u P nh x n).2.2)) noX := by
  refine Tri.ofV (own := RX8) (mn := "pays") (by decide +kernel) rfl rfl (Nat.le_of_ble_eq_true rfl) ?_
  have j35 : V D s0 RX8 "pays" cX8_pays 3 ((some .int)) [] l (rmd 2 0 0) (Zm D s0 0 0 (fun r G' => r = some (.int (R_pay u P nh x n).2.1) ∧ G' = HP A (rs σ (R_pay u P nh x n).1 (R_pay u P nh x n).2.2)) noX) 35 [(0, .ref (A 20 0 0)), (1, .int x), (2, .int n)] [.int (bi (ob n 1 99)), .ref (A 20 0 0)] (HP A (rs σ (hn P (ob x 0 (nI nh - 1)) 3 x) u)) 0 0 := by
    refine V_iconst (v := 1) dX8_pays_35 (by decide) ?_
    refine V_iconst (v := 0) dX8_pays_36 (by decide) ?_
    refine Cv0_3 (d := 2) cv_X8_92 dX8_pays_37 (t_X8_hinders hA) (hp20 hA) rfl rfl (Nat.le_of_ble_eq_true rfl) ⟨Nat.le_refl _, Nat.le_refl _⟩ (by decide) ⟨Nat.le_of_ble_eq_true rfl, Nat.le_of_ble_eq_true rfl⟩ ?_
    refine V_aload_n (i := 0) dX8_pays_40 rfl rfl ?_
    refine V_getf fl_X8_41 dX8_pays_41 (hp20 hA) rfl ?_
    refine V_if_eq (tgt := 49) dX8_pays_44 (by decide) (fun h44 => ?_) (fun h44 => ?_)
    · rw [rs_15] at h44
      have hob := (PX2 h44 (by decide) (by decide)).1
      obtain ⟨j, hj, rfl⟩ := ob_ex (by omega) hob
      have hc := nI_clamp (n := j) (by omega)
      have j65 : V D s0 RX8 "pays" cX8_pays 3 ((some .int)) [] l (rmd 2 0 0) (Zm D s0 0 0 (fun r G' => r = some (.int (R_pay u P nh (nI j) n).2.1) ∧ G' = HP A (rs σ (R_pay u P nh (nI j) n).1 (R_pay u P nh (nI j) n).2.2)) noX) 65 [(0, .ref (A 20 0 0)), (1, .int (nI j)), (2, .int n)] [.int (bi (decide (u (hx j 4) < n))), .ref (A 20 0 0)] (HP A (rs σ (RP_pay1 u P nh (nI j) n) u)) 0 0 := by
        refine V_bipush (v := 17) dX8_pays_65 (by decide) ?_
        refine V_aload_n (i := 0) dX8_pays_67 rfl rfl ?_
        refine V_iload_n (i := 1) dX8_pays_68 rfl rfl ?_
        refine V_iconst (v := nI 4) dX8_pays_69 (by decide) ?_
        refine Cv1_2 (d := 2) cv_X8_74 dX8_pays_70 (t_X8_of hA (by omega) (by decide)) (hp20 hA) rfl rfl (Nat.le_of_ble_eq_true rfl) ⟨Nat.le_refl _, Nat.le_refl _⟩ (by decide) ⟨Nat.le_of_ble_eq_true rfl, Nat.le_of_ble_eq_true rfl⟩ ?_
        refine Cv0_3 (d := 2) cv_X8_92 dX8_pays_73 (t_X8_hinders hA) (hp20 hA) rfl rfl (Nat.le_of_ble_eq_true rfl) ⟨Nat.le_refl _, Nat.le_refl _⟩ (by decide) ⟨Nat.le_of_ble_eq_true rfl, Nat.le_of_ble_eq_true rfl⟩ ?_
        refine V_aload_n (i := 0) dX8_pays_76 rfl rfl ?_
        refine V_iload_n (i := 1) dX8_pays_77 rfl rfl ?_
        refine V_iconst (v := nI 4) dX8_pays_78 (by decide) ?_
        refine V_aload_n (i := 0) dX8_pays_79 rfl rfl ?_
        refine V_iload_n (i := 1) dX8_pays_80 rfl rfl ?_
        refine V_iconst (v := nI 4) dX8_pays_81 (by decide) ?_
        refine Cv1_2 (d := 2) cv_X8_74 dX8_pays_82 (t_X8_of hA (by omega) (by decide)) (hp20 hA) rfl rfl (Nat.le_of_ble_eq_true rfl) ⟨Nat.le_refl _, Nat.le_refl _⟩ (by decide) ⟨Nat.le_of_ble_eq_true rfl, Nat.le_of_ble_eq_true rfl⟩ ?_
        refine V_iload_n (i := 2) dX8_pays_85 rfl rfl ?_
        refine V_isub dX8_pays_86 ?_
        refine Cv0_3 (d := 2) cv_X8_96 dX8_pays_87 (t_X8_becomes hA (by omega) (by decide)) (hp20 hA) rfl rfl (Nat.le_of_ble_eq_true rfl) ⟨Nat.le_refl _, Nat.le_refl _⟩ (by decide) ⟨Nat.le_of_ble_eq_true rfl, Nat.le_of_ble_eq_true rfl⟩ ?_
        refine V_aload_n (i := 0) dX8_pays_90 rfl rfl ?_
        refine V_getf fl_X8_9 dX8_pays_91 (hp20 hA) rfl ?_
        refine V_bipush (v := nI 6) dX8_pays_94 (by decide) ?_
        refine V_dup2 dX8_pays_96 rfl rfl ?_
        refine VL_21 dX8_pays_97 hA rfl (by omega) ?_
        refine V_iload_n (i := 2) dX8_pays_98 rfl rfl ?_
        refine V_iadd dX8_pays_99 ?_
        refine VR_21 dX8_pays_100 hA rfl (by omega) ?_
        refine V_aload_n (i := 0) dX8_pays_101 rfl rfl ?_
        refine V_getf fl_X8_9 dX8_pays_102 (hp20 hA) rfl ?_
        refine V_bipush (v := nI 7) dX8_pays_105 (by decide) ?_
        refine V_dup2 dX8_pays_107 rfl rfl ?_
        refine VL_21 dX8_pays_108 hA rfl (by omega) ?_
        refine V_iload_n (i := 2) dX8_pays_109 rfl rfl ?_
        refine V_iadd dX8_pays_110 ?_
        refine VR_21 dX8_pays_111 hA rfl (by omega) ?_
        refine V_aload_n (i := 0) dX8_pays_112 rfl rfl ?_
        refine V_iload_n (i := 1) dX8_pays_113 rfl rfl ?_
        refine V_iconst (v := nI 4) dX8_pays_114 (by decide) ?_
        refine Cv1_2 (d := 2) cv_X8_74 dX8_pays_115 (t_X8_of hA (by omega) (by decide)) (hp20 hA) rfl rfl (Nat.le_of_ble_eq_true rfl) ⟨Nat.le_refl _, Nat.le_refl _⟩ (by decide) ⟨Nat.le_of_ble_eq_true rfl, Nat.le_of_ble_eq_true rfl⟩ ?_
        refine V_iret dX8_pays_118 rfl (Nat.le_of_ble_eq_true rfl) (Nat.le_of_ble_eq_true rfl) ?_
        refine rfin ?_
        rw [R_pay, if_pos h44, hc]
        rfl
      refine V_aload_n (i := 0) dX8_pays_49 rfl rfl ?_
      refine V_aload_n (i := 0) dX8_pays_50 rfl rfl ?_
      refine V_iload_n (i := 1) dX8_pays_51 rfl rfl ?_
      refine V_iconst (v := nI 4) dX8_pays_52 (by decide) ?_
      refine Cv1_2 (d := 2) cv_X8_74 dX8_pays_53 (t_X8_of hA (by omega) (by decide)) (hp20 hA) rfl rfl (Nat.le_of_ble_eq_true rfl) ⟨Nat.le_refl _, Nat.le_refl _⟩ (by decide) ⟨Nat.le_of_ble_eq_true rfl, Nat.le_of_ble_eq_true rfl⟩ ?_
      refine V_iload_n (i := 2) dX8_pays_56 rfl rfl ?_
      refine V_icmp_ge (tgt := 64) dX8_pays_57 (by decide) (fun h57 => ?_) (fun h57 => ?_)
      · replace h57 := Int32.not_lt.mpr h57
        refine V_iconst (v := 0) dX8_pays_64 (by decide) ?_
        refine V.fin [0, 1, 2] rfl rfl (V.eqst ?_ j65)
        first
          | (simp [bi, *]; done)
          | (simp_all [bi]; done)
      · replace h57 := Int32.not_le.mp h57
        refine V_iconst (v := 1) dX8_pays_60 (by decide) ?_
        refine V_goto (tgt := 65) dX8_pays_61 (by decide) ?_
        refine V.fin [0, 1, 2] rfl rfl (V.eqst ?_ j65)
        first
          | (simp [bi, *]; done)
          | (simp_all [bi]; done)
    · rw [rs_15] at h44
      refine V_iconst (v := 0) dX8_pays_47 (by decide) ?_
      refine V_iret dX8_pays_48 rfl (Nat.le_of_ble_eq_true rfl) (Nat.le_of_ble_eq_true rfl) ?_
      refine rfin ?_
      rw [R_pay, if_neg h44]
  have j14 : V D s0 RX8 "pays" cX8_pays 3 ((some .int)) [] l (rmd 2 0 0) (Zm D s0 0 0 (fun r G' => r = some (.int (R_pay u P nh x n).2.1) ∧ G' = HP A (rs σ (R_pay u P nh x n).1 (R_pay u P nh x n).2.2)) noX) 14 [(0, .ref (A 20 0 0)), (1, .int x), (2, .int n)] [.int (bi (ob x 0 (nI nh - 1))), .ref (A 20 0 0)] (HP A (rs σ P u)) 0 0 := by
    refine V_iconst (v := 3) dX8_pays_14 (by decide) ?_
    refine V_iload_n (i := 1) dX8_pays_15 rfl rfl ?_
    refine Cv0_3 (d := 2) cv_X8_92 dX8_pays_16 (t_X8_hinders hA) (hp20 hA) rfl rfl (Nat.le_of_ble_eq_true rfl) ⟨Nat.le_refl _, Nat.le_refl _⟩ (by decide) ⟨Nat.le_of_ble_eq_true rfl, Nat.le_of_ble_eq_true rfl⟩ ?_
    refine V_aload_n (i := 0) dX8_pays_19 rfl rfl ?_
    refine V_iload_n (i := 2) dX8_pays_20 rfl rfl ?_
    refine V_iconst (v := 1) dX8_pays_21 (by decide) ?_
    refine V_bipush (v := 99) dX8_pays_22 (by decide) ?_
    refine Cs1_3 (d := 2) cs_X8_66 dX8_pays_24 (t_X8_isIn hA) (Nat.le_of_ble_eq_true rfl) ⟨Nat.le_refl _, Nat.le_refl _⟩ (by decide) ⟨Nat.le_of_ble_eq_true rfl, Nat.le_of_ble_eq_true rfl⟩ ?_
    refine V_if_ne (tgt := 34) dX8_pays_27 (by decide) (fun h27 => ?_) (fun h27 => ?_)
    · replace h27 := bi_1.mp h27
      refine V_iconst (v := 0) dX8_pays_34 (by decide) ?_
      refine V.fin [0, 1, 2] rfl rfl (V.eqst ?_ j35)
      first
        | (simp [bi, *]; done)
        | (simp_all [bi]; done)
    · replace h27 := bi_0.mp h27
      refine V_iconst (v := 1) dX8_pays_30 (by decide) ?_
      refine V_goto (tgt := 35) dX8_pays_31 (by decide) ?_
      refine V.fin [0, 1, 2] rfl rfl (V.eqst ?_ j35)
      first
        | (simp [bi, *]; done)
        | (simp_all [bi]; done)
  refine V_aload_n (i := 0) dX8_pays_0 rfl rfl ?_
  refine V_aload_n (i := 0) dX8_pays_1 rfl rfl ?_
  refine V_iload_n (i := 1) dX8_pays_2 rfl rfl ?_
  refine Cv1_1 (d := 2) cv_X8_104 dX8_pays_3 (t_X8_isHouse hA h1) (hp20 hA) rfl rfl (Nat.le_of_ble_eq_true rfl) ⟨Nat.le_refl _, Nat.le_refl _⟩ (by decide) ⟨Nat.le_of_ble_eq_true rfl, Nat.le_of_ble_eq_true rfl⟩ ?_
  refine V_if_ne (tgt := 13) dX8_pays_6 (by decide) (fun h6 => ?_) (fun h6 => ?_)
  · replace h6 := bi_1.mp h6
    refine V_iconst (v := 0) dX8_pays_13 (by decide) ?_
    refine V.fin [0, 1, 2] rfl rfl (V.eqst ?_ j14)
    first
      | (simp [bi, *]; done)
      | (simp_all [bi]; done)
  · replace h6 := bi_0.mp h6
    refine V_iconst (v := 1) dX8_pays_9 (by decide) ?_
    refine V_goto (tgt := 14) dX8_pays_10 (by decide) ?_
    refine V.fin [0, 1, 2] rfl rfl (V.eqst ?_ j14)
    first
      | (simp [bi, *]; done)
      | (simp_all [bi]; done)

set_option maxHeartbeats 4000000 in
set_option maxRecDepth 100000 in
theorem t_X8_mops {D : va_G} {s0 : State} {l : Launch} {B : Nat} {A : AT} {σ : Sg} (hA : AOK B A) {P : Int32 × Int32} {u : Nat → Int32} {nc : Nat} (h2 : u 2 = nI nc) (hm : nc ≤ 4) {pl : Nat} (h3 : u 3 = nI pl) (hp : pl ≤ 8) {x : Int32} : Tri D s0 l yX8_mops cX8_mops 5 ((some .int)) 2 0 0 [.ref (A 20 0 0), .int x] (HP A (rs σ P u)) (fun r G' => r = some (.int (R_mop u P nc pl x).2.1) ∧ G' = HP A (rs σ (R_mop u P nc pl x).1 (R_mop u P nc pl x).2.2)) noX := by
  refine Tri.ofV (own := RX8) (mn := "mops") (by decide +kernel) rfl rfl (Nat.le_of_ble_eq_true rfl) ?_
  have j34 : V D s0 RX8 "mops" cX8_mops 5 ((some .int)) [] l (rmd 2 0 0) (Zm D s0 0 0 (fun r G' => r = some (.int (R_mop u P nc pl x).2.1) ∧ G' = HP A (rs σ (R_mop u P nc pl x).1 (R_mop u P nc pl x).2.2)) noX) 34 [(0, .ref (A 20 0 0)), (1, .int x), (2, .int (u 3 - 1))] [.int (bi (decide (u 3 - 1 < 0))), .ref (A 20 0 0)] (HP A (rs σ (hn P (ob x 0 (nI nc - 1)) 3 x) u)) 0 0 := by
    refine V_bipush (v := 7) dX8_mops_34 (by decide) ?_
    refine V_iconst (v := 0) dX8_mops_36 (by decide) ?_
    refine Cv0_3 (d := 2) cv_X8_92 dX8_mops_37 (t_X8_hinders hA) (hp20 hA) rfl rfl (Nat.le_of_ble_eq_true rfl) ⟨Nat.le_refl _, Nat.le_refl _⟩ (by decide) ⟨Nat.le_of_ble_eq_true rfl, Nat.le_of_ble_eq_true rfl⟩ ?_
    refine V_aload_n (i := 0) dX8_mops_40 rfl rfl ?_
    refine V_getf fl_X8_41 dX8_mops_41 (hp20 hA) rfl ?_
    refine V_if_eq (tgt := 49) dX8_mops_44 (by decide) (fun h44 => ?_) (fun h44 => ?_)
    · rw [rs_15] at h44
      have hob := (PX2 h44 (by decide) (by decide)).1
      have hh9 := pl_1 h3 (PX2 h44 (by decide) (by decide)).2.1
      obtain ⟨j, hj, rfl⟩ := ob_ex (by omega) hob
      have hc := nI_clamp (n := j) (by omega)
      have j99 : V D s0 RX8 "mops" cX8_mops 5 ((some .int)) [] l (rmd 2 0 0) (Zm D s0 0 0 (fun r G' => r = some (.int (R_mop u P nc pl (nI j)).2.1) ∧ G' = HP A (rs σ (R_mop u P nc pl (nI j)).1 (R_mop u P nc pl (nI j)).2.2)) noX) 99 [(0, .ref (A 20 0 0)), (1, .int (nI j)), (2, .int (u 3 - 1)), (3, .int (u (hx (pl - 1) 5))), (4, .int (mopT u j (pl - 1)))] [.int (bi (decide (30 < mopT u j (pl - 1)))), .ref (A 20 0 0)] (HP A (rs σ (hn (RP_mop1 u P nc (nI j)) (decide (u (hx (pl - 1) 5) = 0)) 18 (u 3 - 1)) u)) 0 0 := by
        refine V_bipush (v := 13) dX8_mops_99 (by decide) ?_
        refine V_iload (i := 4) dX8_mops_101 rfl ?_
        refine Cv0_3 (d := 2) cv_X8_92 dX8_mops_103 (t_X8_hinders hA) (hp20 hA) rfl rfl (Nat.le_of_ble_eq_true rfl) ⟨Nat.le_refl _, Nat.le_refl _⟩ (by decide) ⟨Nat.le_of_ble_eq_true rfl, Nat.le_of_ble_eq_true rfl⟩ ?_
        refine V_aload_n (i := 0) dX8_mops_106 rfl rfl ?_
        refine V_iload_n (i := 2) dX8_mops_107 rfl rfl ?_
        refine V_iconst (v := nI 5) dX8_mops_108 (by decide) ?_
        refine V_iconst (v := 0) dX8_mops_109 (by decide) ?_
        refine Cv0_3 (d := 2) cv_X8_96 dX8_mops_110 (t_X8_becomese hA hh9.2 (by omega) (by decide)) (hp20 hA) rfl rfl (Nat.le_of_ble_eq_true rfl) ⟨Nat.le_refl _, Nat.le_refl _⟩ (by decide) ⟨Nat.le_of_ble_eq_true rfl, Nat.le_of_ble_eq_true rfl⟩ ?_
        refine V_aload_n (i := 0) dX8_mops_113 rfl rfl ?_
        refine V_iload_n (i := 1) dX8_mops_114 rfl rfl ?_
        refine V_iconst (v := nI 1) dX8_mops_115 (by decide) ?_
        refine V_iload (i := 4) dX8_mops_116 rfl ?_
        refine Cv0_3 (d := 2) cv_X8_108 dX8_mops_118 (t_X8_carrierBecomes hA (by omega) (by decide)) (hp20 hA) rfl rfl (Nat.le_of_ble_eq_true rfl) ⟨Nat.le_refl _, Nat.le_refl _⟩ (by decide) ⟨Nat.le_of_ble_eq_true rfl, Nat.le_of_ble_eq_true rfl⟩ ?_
        refine V_iload_n (i := 3) dX8_mops_121 rfl rfl ?_
        refine V_iret dX8_mops_122 rfl (Nat.le_of_ble_eq_true rfl) (Nat.le_of_ble_eq_true rfl) ?_
        refine rfin ?_
        rw [R_mop, if_pos h44, hc]
        rfl
      have j80 : V D s0 RX8 "mops" cX8_mops 5 ((some .int)) [] l (rmd 2 0 0) (Zm D s0 0 0 (fun r G' => r = some (.int (R_mop u P nc pl (nI j)).2.1) ∧ G' = HP A (rs σ (R_mop u P nc pl (nI j)).1 (R_mop u P nc pl (nI j)).2.2)) noX) 80 [(0, .ref (A 20 0 0)), (1, .int (nI j)), (2, .int (u 3 - 1)), (3, .int (u (hx (pl - 1) 5))), (4, .int (mopT u j (pl - 1)))] [.int (bi (decide (u (hx (pl - 1) 5) = 0))), .ref (A 20 0 0)] (HP A (rs σ (RP_mop1 u P nc (nI j)) u)) 0 0 := by
        refine V_bipush (v := 18) dX8_mops_80 (by decide) ?_
        refine V_iload_n (i := 2) dX8_mops_82 rfl rfl ?_
        refine Cv0_3 (d := 2) cv_X8_92 dX8_mops_83 (t_X8_hinders hA) (hp20 hA) rfl rfl (Nat.le_of_ble_eq_true rfl) ⟨Nat.le_refl _, Nat.le_refl _⟩ (by decide) ⟨Nat.le_of_ble_eq_true rfl, Nat.le_of_ble_eq_true rfl⟩ ?_
        refine V_aload_n (i := 0) dX8_mops_86 rfl rfl ?_
        refine V_iload (i := 4) dX8_mops_87 rfl ?_
        refine V_bipush (v := 30) dX8_mops_89 (by decide) ?_
        refine V_icmp_le (tgt := 98) dX8_mops_91 (by decide) (fun h91 => ?_) (fun h91 => ?_)
        · replace h91 : ¬ 30 < mopT u j (pl - 1) := Int32.not_lt.mpr h91
          refine V_iconst (v := 0) dX8_mops_98 (by decide) ?_
          refine V.fin [0, 1, 2, 3, 4] rfl rfl (V.eqst ?_ j99)
          first
            | (simp [bi, *]; done)
            | (simp_all [bi]; done)
        · replace h91 : 30 < mopT u j (pl - 1) := Int32.not_le.mp h91
          refine V_iconst (v := 1) dX8_mops_94 (by decide) ?_
          refine V_goto (tgt := 99) dX8_mops_95 (by decide) ?_
          refine V.fin [0, 1, 2, 3, 4] rfl rfl (V.eqst ?_ j99)
          first
            | (simp [bi, *]; done)
            | (simp_all [bi]; done)
      refine V_aload_n (i := 0) dX8_mops_49 rfl rfl ?_
      refine V_iload_n (i := 2) dX8_mops_50 rfl rfl ?_
      refine V_iconst (v := nI 5) dX8_mops_51 (by decide) ?_
      refine Cv1_2 (d := 2) cv_X8_74 dX8_mops_52 (t_X8_ofe hA hh9.2 (by omega) (by decide)) (hp20 hA) rfl rfl (Nat.le_of_ble_eq_true rfl) ⟨Nat.le_refl _, Nat.le_refl _⟩ (by decide) ⟨Nat.le_of_ble_eq_true rfl, Nat.le_of_ble_eq_true rfl⟩ ?_
      refine V_istore_n (i := 3) dX8_mops_55 rfl (by decide) ?_
      refine V_aload_n (i := 0) dX8_mops_56 rfl rfl ?_
      refine V_iload_n (i := 1) dX8_mops_57 rfl rfl ?_
      refine V_iconst (v := nI 1) dX8_mops_58 (by decide) ?_
      refine Cv1_2 (d := 2) cv_X8_83 dX8_mops_59 (t_X8_ofCarrier hA (by omega) (by decide)) (hp20 hA) rfl rfl (Nat.le_of_ble_eq_true rfl) ⟨Nat.le_refl _, Nat.le_refl _⟩ (by decide) ⟨Nat.le_of_ble_eq_true rfl, Nat.le_of_ble_eq_true rfl⟩ ?_
      refine V_iload_n (i := 3) dX8_mops_62 rfl rfl ?_
      refine V_iconst (v := 1) dX8_mops_63 (by decide) ?_
      refine V_iadd dX8_mops_64 ?_
      refine V_iconst (v := 2) dX8_mops_65 (by decide) ?_
      refine V_idiv dX8_mops_66 (by decide) ?_
      refine V_iadd dX8_mops_67 ?_
      refine V_istore (i := 4) dX8_mops_68 (by decide) ?_
      refine V_aload_n (i := 0) dX8_mops_70 rfl rfl ?_
      refine V_iload_n (i := 3) dX8_mops_71 rfl rfl ?_
      refine V_if_ne (tgt := 79) dX8_mops_72 (by decide) (fun h72 => ?_) (fun h72 => ?_)
      · refine V_iconst (v := 0) dX8_mops_79 (by decide) ?_
        refine V.fin [2, 3, 4, 1, 0] rfl rfl (V.eqst ?_ j80)
        first
          | (simp [bi, *]; done)
          | (simp_all [bi]; done)
      · refine V_iconst (v := 1) dX8_mops_75 (by decide) ?_
        refine V_goto (tgt := 80) dX8_mops_76 (by decide) ?_
        refine V.fin [2, 3, 4, 1, 0] rfl rfl (V.eqst ?_ j80)
        first
          | (simp [bi, *]; done)
          | (simp_all [bi]; done)
    · rw [rs_15] at h44
      refine V_iconst (v := 0) dX8_mops_47 (by decide) ?_
      refine V_iret dX8_mops_48 rfl (Nat.le_of_ble_eq_true rfl) (Nat.le_of_ble_eq_true rfl) ?_
      refine rfin ?_
      rw [R_mop, if_neg h44]
  have j19 : V D s0 RX8 "mops" cX8_mops 5 ((some .int)) [] l (rmd 2 0 0) (Zm D s0 0 0 (fun r G' => r = some (.int (R_mop u P nc pl x).2.1) ∧ G' = HP A (rs σ (R_mop u P nc pl x).1 (R_mop u P nc pl x).2.2)) noX) 19 [(0, .ref (A 20 0 0)), (1, .int x), (2, .int (u 3 - 1))] [.int (bi (ob x 0 (nI nc - 1))), .ref (A 20 0 0)] (HP A (rs σ P u)) 0 0 := by
    refine V_iconst (v := 3) dX8_mops_19 (by decide) ?_
    refine V_iload_n (i := 1) dX8_mops_20 rfl rfl ?_
    refine Cv0_3 (d := 2) cv_X8_92 dX8_mops_21 (t_X8_hinders hA) (hp20 hA) rfl rfl (Nat.le_of_ble_eq_true rfl) ⟨Nat.le_refl _, Nat.le_refl _⟩ (by decide) ⟨Nat.le_of_ble_eq_true rfl, Nat.le_of_ble_eq_true rfl⟩ ?_
    refine V_aload_n (i := 0) dX8_mops_24 rfl rfl ?_
    refine V_iload_n (i := 2) dX8_mops_25 rfl rfl ?_
    refine V_if_ge (tgt := 33) dX8_mops_26 (by decide) (fun h26 => ?_) (fun h26 => ?_)
    · replace h26 : ¬ u 3 - 1 < 0 := Int32.not_lt.mpr h26
      refine V_iconst (v := 0) dX8_mops_33 (by decide) ?_
      refine V.fin [0, 1, 2] rfl rfl (V.eqst ?_ j34)
      first
        | (simp [bi, *]; done)
        | (simp_all [bi]; done)
    · replace h26 : u 3 - 1 < 0 := Int32.not_le.mp h26
      refine V_iconst (v := 1) dX8_mops_29 (by decide) ?_
      refine V_goto (tgt := 34) dX8_mops_30 (by decide) ?_
      refine V.fin [0, 1, 2] rfl rfl (V.eqst ?_ j34)
      first
        | (simp [bi, *]; done)
        | (simp_all [bi]; done)
  refine V_aload_n (i := 0) dX8_mops_0 rfl rfl ?_
  refine Cv1_0 (d := 2) cv_X8_137 dX8_mops_1 (t_X8_here hA) (hp20 hA) rfl rfl (Nat.le_of_ble_eq_true rfl) ⟨Nat.le_refl _, Nat.le_refl _⟩ (by decide) ⟨Nat.le_of_ble_eq_true rfl, Nat.le_of_ble_eq_true rfl⟩ ?_
  refine V_istore_n (i := 2) dX8_mops_4 rfl (by decide) ?_
  refine V_aload_n (i := 0) dX8_mops_5 rfl rfl ?_
  refine V_aload_n (i := 0) dX8_mops_6 rfl rfl ?_
  refine V_iload_n (i := 1) dX8_mops_7 rfl rfl ?_
  refine Cv1_1 (d := 2) cv_X8_115 dX8_mops_8 (t_X8_isCarrier hA h2) (hp20 hA) rfl rfl (Nat.le_of_ble_eq_true rfl) ⟨Nat.le_refl _, Nat.le_refl _⟩ (by decide) ⟨Nat.le_of_ble_eq_true rfl, Nat.le_of_ble_eq_true rfl⟩ ?_
  refine V_if_ne (tgt := 18) dX8_mops_11 (by decide) (fun h11 => ?_) (fun h11 => ?_)
  · replace h11 := bi_1.mp h11
    refine V_iconst (v := 0) dX8_mops_18 (by decide) ?_
    refine V.fin [1, 2, 0] rfl rfl (V.eqst ?_ j19)
    first
      | (simp [bi, *]; done)
      | (simp_all [bi]; done)
  · replace h11 := bi_0.mp h11
    refine V_iconst (v := 1) dX8_mops_14 (by decide) ?_
    refine V_goto (tgt := 19) dX8_mops_15 (by decide) ?_
    refine V.fin [1, 2, 0] rfl rfl (V.eqst ?_ j19)
    first
      | (simp [bi, *]; done)
      | (simp_all [bi]; done)

set_option maxHeartbeats 4000000 in
set_option maxRecDepth 100000 in
theorem t_X8_sackGoesUp {D : va_G} {s0 : State} {l : Launch} {B : Nat} {A : AT} {σ : Sg} (hA : AOK B A) {P : Int32 × Int32} {u : Nat → Int32} {c h : Nat} {x : Int32} (e : x = nI h) (hc : c < 4) (hh : h < 8) (hs9 : 0 < 5 + u (kx c 0)) : Tri D s0 l yX8_sackGoesUp cX8_sackGoesUp 4 (none) 2 0 0 [.ref (A 20 0 0), .int (nI c), .int x] (HP A (rs σ P u)) (fun r G' => r = none ∧ G' = HP A (rs σ P (R_sack u c h))) noX := by
  refine Tri.ofV (own := RX8) (mn := "sackGoesUp") (by decide +kernel) rfl rfl (Nat.le_of_ble_eq_true rfl) ?_
  refine V_bipush (v := 9) dX8_sackGoesUp_0 (by decide) ?_
  refine V_aload_n (i := 0) dX8_sackGoesUp_2 rfl rfl ?_
  refine V_iload_n (i := 1) dX8_sackGoesUp_3 rfl rfl ?_
  refine V_iconst (v := nI 2) dX8_sackGoesUp_4 (by decide) ?_
  refine Cv1_2 (d := 2) cv_X8_83 dX8_sackGoesUp_5 (t_X8_ofCarrier hA (by omega) (by decide)) (hp20 hA) rfl rfl (Nat.le_of_ble_eq_true rfl) ⟨Nat.le_refl _, Nat.le_refl _⟩ (by decide) ⟨Nat.le_of_ble_eq_true rfl, Nat.le_of_ble_eq_true rfl⟩ ?_
  refine V_iconst (v := 1) dX8_sackGoesUp_8 (by decide) ?_
  refine V_iadd dX8_sackGoesUp_9 ?_
  refine V_mmin cm_X8_125 dX8_sackGoesUp_10 (Nat.le_of_ble_eq_true rfl) (Nat.le_of_ble_eq_true rfl) (Nat.le_of_ble_eq_true rfl) (Nat.le_of_ble_eq_true rfl) ?_
  refine V_istore_n (i := 3) dX8_sackGoesUp_13 rfl (by decide) ?_
  refine V_aload_n (i := 0) dX8_sackGoesUp_14 rfl rfl ?_
  refine V_iload_n (i := 1) dX8_sackGoesUp_15 rfl rfl ?_
  refine V_iconst (v := nI 1) dX8_sackGoesUp_16 (by decide) ?_
  refine V_aload_n (i := 0) dX8_sackGoesUp_17 rfl rfl ?_
  refine V_iload_n (i := 1) dX8_sackGoesUp_18 rfl rfl ?_
  refine V_iconst (v := nI 1) dX8_sackGoesUp_19 (by decide) ?_
  refine Cv1_2 (d := 2) cv_X8_83 dX8_sackGoesUp_20 (t_X8_ofCarrier hA (by omega) (by decide)) (hp20 hA) rfl rfl (Nat.le_of_ble_eq_true rfl) ⟨Nat.le_refl _, Nat.le_refl _⟩ (by decide) ⟨Nat.le_of_ble_eq_true rfl, Nat.le_of_ble_eq_true rfl⟩ ?_
  refine V_aload_n (i := 0) dX8_sackGoesUp_23 rfl rfl ?_
  refine V_iload_n (i := 1) dX8_sackGoesUp_24 rfl rfl ?_
  refine V_iload_n (i := 2) dX8_sackGoesUp_25 rfl rfl ?_
  refine Cv1_2 (d := 2) cv_X8_86 dX8_sackGoesUp_26 (t_X8_tiredBye hA e hc hh hs9) (hp20 hA) rfl rfl (Nat.le_of_ble_eq_true rfl) ⟨Nat.le_refl _, Nat.le_refl _⟩ (by decide) ⟨Nat.le_of_ble_eq_true rfl, Nat.le_of_ble_eq_true rfl⟩ ?_
  refine V_iadd dX8_sackGoesUp_29 ?_
  refine Cv0_3 (d := 2) cv_X8_108 dX8_sackGoesUp_30 (t_X8_carrierBecomes hA (by omega) (by decide)) (hp20 hA) rfl rfl (Nat.le_of_ble_eq_true rfl) ⟨Nat.le_refl _, Nat.le_refl _⟩ (by decide) ⟨Nat.le_of_ble_eq_true rfl, Nat.le_of_ble_eq_true rfl⟩ ?_
  refine V_aload_n (i := 0) dX8_sackGoesUp_33 rfl rfl ?_
  refine V_iload_n (i := 1) dX8_sackGoesUp_34 rfl rfl ?_
  refine V_iconst (v := nI 2) dX8_sackGoesUp_35 (by decide) ?_
  refine V_iload_n (i := 3) dX8_sackGoesUp_36 rfl rfl ?_
  refine Cv0_3 (d := 2) cv_X8_108 dX8_sackGoesUp_37 (t_X8_carrierBecomes hA (by omega) (by decide)) (hp20 hA) rfl rfl (Nat.le_of_ble_eq_true rfl) ⟨Nat.le_refl _, Nat.le_refl _⟩ (by decide) ⟨Nat.le_of_ble_eq_true rfl, Nat.le_of_ble_eq_true rfl⟩ ?_
  refine V_aload_n (i := 0) dX8_sackGoesUp_40 rfl rfl ?_
  refine V_iload_n (i := 1) dX8_sackGoesUp_41 rfl rfl ?_
  refine V_iconst (v := nI 3) dX8_sackGoesUp_42 (by decide) ?_
  refine V_aload_n (i := 0) dX8_sackGoesUp_43 rfl rfl ?_
  refine V_iload_n (i := 1) dX8_sackGoesUp_44 rfl rfl ?_
  refine V_iconst (v := nI 3) dX8_sackGoesUp_45 (by decide) ?_
  refine Cv1_2 (d := 2) cv_X8_83 dX8_sackGoesUp_46 (t_X8_ofCarrier hA (by omega) (by decide)) (hp20 hA) rfl rfl (Nat.le_of_ble_eq_true rfl) ⟨Nat.le_refl _, Nat.le_refl _⟩ (by decide) ⟨Nat.le_of_ble_eq_true rfl, Nat.le_of_ble_eq_true rfl⟩ ?_
  refine V_iconst (v := 1) dX8_sackGoesUp_49 (by decide) ?_
  refine V_iadd dX8_sackGoesUp_50 ?_
  refine Cv0_3 (d := 2) cv_X8_108 dX8_sackGoesUp_51 (t_X8_carrierBecomes hA (by omega) (by decide)) (hp20 hA) rfl rfl (Nat.le_of_ble_eq_true rfl) ⟨Nat.le_refl _, Nat.le_refl _⟩ (by decide) ⟨Nat.le_of_ble_eq_true rfl, Nat.le_of_ble_eq_true rfl⟩ ?_
  refine V_aload_n (i := 0) dX8_sackGoesUp_54 rfl rfl ?_
  refine V_iload_n (i := 2) dX8_sackGoesUp_55 rfl rfl ?_
  refine V_iconst (v := nI 5) dX8_sackGoesUp_56 (by decide) ?_
  refine V_aload_n (i := 0) dX8_sackGoesUp_57 rfl rfl ?_
  refine V_iload_n (i := 2) dX8_sackGoesUp_58 rfl rfl ?_
  refine V_iconst (v := nI 5) dX8_sackGoesUp_59 (by decide) ?_
  refine Cv1_2 (d := 2) cv_X8_74 dX8_sackGoesUp_60 (t_X8_ofe hA e hh (by decide)) (hp20 hA) rfl rfl (Nat.le_of_ble_eq_true rfl) ⟨Nat.le_refl _, Nat.le_refl _⟩ (by decide) ⟨Nat.le_of_ble_eq_true rfl, Nat.le_of_ble_eq_true rfl⟩ ?_
  refine V_iload_n (i := 3) dX8_sackGoesUp_63 rfl rfl ?_
  refine V_iconst (v := 3) dX8_sackGoesUp_64 (by decide) ?_
  refine V_idiv dX8_sackGoesUp_65 (by decide) ?_
  refine V_iadd dX8_sackGoesUp_66 ?_
  refine Cv0_3 (d := 2) cv_X8_96 dX8_sackGoesUp_67 (t_X8_becomese hA e hh (by decide)) (hp20 hA) rfl rfl (Nat.le_of_ble_eq_true rfl) ⟨Nat.le_refl _, Nat.le_refl _⟩ (by decide) ⟨Nat.le_of_ble_eq_true rfl, Nat.le_of_ble_eq_true rfl⟩ ?_
  refine V_aload_n (i := 0) dX8_sackGoesUp_70 rfl rfl ?_
  refine V_iload_n (i := 2) dX8_sackGoesUp_71 rfl rfl ?_
  refine V_iconst (v := nI 3) dX8_sackGoesUp_72 (by decide) ?_
  refine V_aload_n (i := 0) dX8_sackGoesUp_73 rfl rfl ?_
  refine V_iload_n (i := 2) dX8_sackGoesUp_74 rfl rfl ?_
  refine V_iconst (v := nI 3) dX8_sackGoesUp_75 (by decide) ?_
  refine Cv1_2 (d := 2) cv_X8_74 dX8_sackGoesUp_76 (t_X8_ofe hA e hh (by decide)) (hp20 hA) rfl rfl (Nat.le_of_ble_eq_true rfl) ⟨Nat.le_refl _, Nat.le_refl _⟩ (by decide) ⟨Nat.le_of_ble_eq_true rfl, Nat.le_of_ble_eq_true rfl⟩ ?_
  refine V_iconst (v := 1) dX8_sackGoesUp_79 (by decide) ?_
  refine V_isub dX8_sackGoesUp_80 ?_
  refine Cv0_3 (d := 2) cv_X8_96 dX8_sackGoesUp_81 (t_X8_becomese hA e hh (by decide)) (hp20 hA) rfl rfl (Nat.le_of_ble_eq_true rfl) ⟨Nat.le_refl _, Nat.le_refl _⟩ (by decide) ⟨Nat.le_of_ble_eq_true rfl, Nat.le_of_ble_eq_true rfl⟩ ?_
  refine V_aload_n (i := 0) dX8_sackGoesUp_84 rfl rfl ?_
  refine V_iload_n (i := 2) dX8_sackGoesUp_85 rfl rfl ?_
  refine V_iconst (v := nI 4) dX8_sackGoesUp_86 (by decide) ?_
  refine V_aload_n (i := 0) dX8_sackGoesUp_87 rfl rfl ?_
  refine V_iload_n (i := 2) dX8_sackGoesUp_88 rfl rfl ?_
  refine V_iconst (v := nI 4) dX8_sackGoesUp_89 (by decide) ?_
  refine Cv1_2 (d := 2) cv_X8_74 dX8_sackGoesUp_90 (t_X8_ofe hA e hh (by decide)) (hp20 hA) rfl rfl (Nat.le_of_ble_eq_true rfl) ⟨Nat.le_refl _, Nat.le_refl _⟩ (by decide) ⟨Nat.le_of_ble_eq_true rfl, Nat.le_of_ble_eq_true rfl⟩ ?_
  refine V_iconst (v := 3) dX8_sackGoesUp_93 (by decide) ?_
  refine V_iadd dX8_sackGoesUp_94 ?_
  refine Cv0_3 (d := 2) cv_X8_96 dX8_sackGoesUp_95 (t_X8_becomese hA e hh (by decide)) (hp20 hA) rfl rfl (Nat.le_of_ble_eq_true rfl) ⟨Nat.le_refl _, Nat.le_refl _⟩ (by decide) ⟨Nat.le_of_ble_eq_true rfl, Nat.le_of_ble_eq_true rfl⟩ ?_
  refine V_aload_n (i := 0) dX8_sackGoesUp_98 rfl rfl ?_
  refine V_iload_n (i := 2) dX8_sackGoesUp_99 rfl rfl ?_
  refine V_bipush (v := nI 6) dX8_sackGoesUp_100 (by decide) ?_
  refine V_aload_n (i := 0) dX8_sackGoesUp_102 rfl rfl ?_
  refine V_iload_n (i := 2) dX8_sackGoesUp_103 rfl rfl ?_
  refine V_bipush (v := nI 6) dX8_sackGoesUp_104 (by decide) ?_
  refine Cv1_2 (d := 2) cv_X8_74 dX8_sackGoesUp_106 (t_X8_ofe hA e hh (by decide)) (hp20 hA) rfl rfl (Nat.le_of_ble_eq_true rfl) ⟨Nat.le_refl _, Nat.le_refl _⟩ (by decide) ⟨Nat.le_of_ble_eq_true rfl, Nat.le_of_ble_eq_true rfl⟩ ?_
  refine V_iconst (v := 1) dX8_sackGoesUp_109 (by decide) ?_
  refine V_iadd dX8_sackGoesUp_110 ?_
  refine Cv0_3 (d := 2) cv_X8_96 dX8_sackGoesUp_111 (t_X8_becomese hA e hh (by decide)) (hp20 hA) rfl rfl (Nat.le_of_ble_eq_true rfl) ⟨Nat.le_refl _, Nat.le_refl _⟩ (by decide) ⟨Nat.le_of_ble_eq_true rfl, Nat.le_of_ble_eq_true rfl⟩ ?_
  refine V_aload_n (i := 0) dX8_sackGoesUp_114 rfl rfl ?_
  refine V_iload_n (i := 2) dX8_sackGoesUp_115 rfl rfl ?_
  refine V_bipush (v := nI 8) dX8_sackGoesUp_116 (by decide) ?_
  refine V_aload_n (i := 0) dX8_sackGoesUp_118 rfl rfl ?_
  refine V_iload_n (i := 2) dX8_sackGoesUp_119 rfl rfl ?_
  refine V_bipush (v := nI 8) dX8_sackGoesUp_120 (by decide) ?_
  refine Cv1_2 (d := 2) cv_X8_74 dX8_sackGoesUp_122 (t_X8_ofe hA e hh (by decide)) (hp20 hA) rfl rfl (Nat.le_of_ble_eq_true rfl) ⟨Nat.le_refl _, Nat.le_refl _⟩ (by decide) ⟨Nat.le_of_ble_eq_true rfl, Nat.le_of_ble_eq_true rfl⟩ ?_
  refine V_iconst (v := 1) dX8_sackGoesUp_125 (by decide) ?_
  refine V_iadd dX8_sackGoesUp_126 ?_
  refine Cv0_3 (d := 2) cv_X8_96 dX8_sackGoesUp_127 (t_X8_becomese hA e hh (by decide)) (hp20 hA) rfl rfl (Nat.le_of_ble_eq_true rfl) ⟨Nat.le_refl _, Nat.le_refl _⟩ (by decide) ⟨Nat.le_of_ble_eq_true rfl, Nat.le_of_ble_eq_true rfl⟩ ?_
  refine V_aload_n (i := 0) dX8_sackGoesUp_130 rfl rfl ?_
  refine V_getf fl_X8_9 dX8_sackGoesUp_131 (hp20 hA) rfl ?_
  refine V_iconst (v := nI 4) dX8_sackGoesUp_134 (by decide) ?_
  refine V_dup2 dX8_sackGoesUp_135 rfl rfl ?_
  refine VL_21 dX8_sackGoesUp_136 hA rfl (by omega) ?_
  refine V_iconst (v := 1) dX8_sackGoesUp_137 (by decide) ?_
  refine V_isub dX8_sackGoesUp_138 ?_
  refine VR_21 dX8_sackGoesUp_139 hA rfl (by omega) ?_
  refine V_vret dX8_sackGoesUp_140 rfl (Nat.le_of_ble_eq_true rfl) (Nat.le_of_ble_eq_true rfl) ?_
  exact ⟨rfl, rfl⟩

set_option maxHeartbeats 4000000 in
set_option maxRecDepth 100000 in
theorem t_X8_carries {D : va_G} {s0 : State} {l : Launch} {B : Nat} {A : AT} {σ : Sg} (hA : AOK B A) {P : Int32 × Int32} {u : Nat → Int32} {nc : Nat} (h2 : u 2 = nI nc) (hm : nc ≤ 4) {pl : Nat} (h3 : u 3 = nI pl) (hp : pl ≤ 8) (hst : ∀ c, c < nc → 0 < 5 + u (kx c 0)) (hdo : ∀ h, h < 8 → u (hx h 1) = 0 ∨ u (hx h 1) = 1 ∨ u (hx h 1) = 2) (hbo : ∀ h, h < 8 → u (hx h 7) = 0 ∨ u (hx h 7) = 1) {x n : Int32} : Tri D s0 l yX8_carries cX8_carries 6 ((some .int)) 3 0 0 [.ref (A 20 0 0), .int x, .int n] (HP A (rs σ P u)) (fun r G' => r = some (.int (R_carry u P nc pl x n).2.1) ∧ G' = HP A (rs σ (R_carry u P nc pl x n).1 (R_carry u P nc pl x n).2.2)) noX := by
  refine Tri.ofV (own := RX8) (mn := "carries") (by decide +kernel) rfl rfl (Nat.le_of_ble_eq_true rfl) ?_
  have j55 : V D s0 RX8 "carries" cX8_carries 6 ((some .int)) [] l (rmd 3 0 0) (Zm D s0 0 0 (fun r G' => r = some (.int (R_carry u P nc pl x n).2.1) ∧ G' = HP A (rs σ (R_carry u P nc pl x n).1 (R_carry u P nc pl x n).2.2)) noX) 55 [(0, .ref (A 20 0 0)), (1, .int x), (2, .int n), (3, .int (u 3 - 1))] [.int (bi (decide (u 3 - 1 < 0))), .ref (A 20 0 0)] (HP A (rs σ (hn (hn P (ob x 0 (nI nc - 1)) 3 x) (ob n 1 9) 1 0) u)) 0 0 := by
    refine V_bipush (v := 7) dX8_carries_55 (by decide) ?_
    refine V_iconst (v := 0) dX8_carries_57 (by decide) ?_
    refine Cv0_3 (d := 3) cv_X8_92 dX8_carries_58 (t_X8_hinders hA) (hp20 hA) rfl rfl (Nat.le_of_ble_eq_true rfl) ⟨Nat.le_refl _, Nat.le_refl _⟩ (by decide) ⟨Nat.le_of_ble_eq_true rfl, Nat.le_of_ble_eq_true rfl⟩ ?_
    refine V_aload_n (i := 0) dX8_carries_61 rfl rfl ?_
    refine V_getf fl_X8_41 dX8_carries_62 (hp20 hA) rfl ?_
    refine V_if_eq (tgt := 70) dX8_carries_65 (by decide) (fun h65 => ?_) (fun h65 => ?_)
    · rw [rs_15] at h65
      have hp3 := PX3 h65 (by decide) (by decide) (by decide)
      have hh9 := pl_1 h3 hp3.2.2.1
      obtain ⟨j, hj, rfl⟩ := ob_ex (by omega) hp3.1
      have hc := nI_clamp (n := j) (by omega)
      obtain ⟨m, hm1, hm9, rfl⟩ := ob_ex2 (a := 1) (b := 9) (by decide) (by decide) hp3.2.1
      have hcm := nI_clamp (n := m) (by omega)
      have hs9 := hst j hj
      have hd9 := hdo (pl - 1) (by omega)
      have hb9 := hbo (pl - 1) (by omega)
      have j235 : V D s0 RX8 "carries" cX8_carries 6 ((some .int)) [] l (rmd 3 0 0) (Zm D s0 0 0 (fun r G' => r = some (.int (R_carry u P nc pl (nI j) (nI m)).2.1) ∧ G' = HP A (rs σ (R_carry u P nc pl (nI j) (nI m)).1 (R_carry u P nc pl (nI j) (nI m)).2.2)) noX) 235 [(0, .ref (A 20 0 0)), (1, .int (nI j)), (2, .int (nI m)), (3, .int (u 3 - 1)), (4, .int (S_carry_t u j (pl - 1) (nI m)))] [.int (bi (decide (30 < S_carry_t u j (pl - 1) (nI m)))), .ref (A 20 0 0)] (HP A (rs σ (hn (hn (hn (hn (hn (RP_carry1 u P nc (nI j) (nI m)) (decide (u 4 < nI m)) 8 (u 4)) (decide (u (hx (pl - 1) 3) < nI m)) 9 (u (hx (pl - 1) 3))) (decide (12 < u (hx (pl - 1) 4))) 10 (u (hx (pl - 1) 4))) (decide (8 < u (hx (pl - 1) 5))) 11 (u (hx (pl - 1) 5))) (decide (S_lets u (pl - 1) < nI m)) 12 (S_lets u (pl - 1))) u)) 0 0 := by
        refine V_bipush (v := 13) dX8_carries_235 (by decide) ?_
        refine V_iload (i := 4) dX8_carries_237 rfl ?_
        refine Cv0_3 (d := 3) cv_X8_92 dX8_carries_239 (t_X8_hinders hA) (hp20 hA) rfl rfl (Nat.le_of_ble_eq_true rfl) ⟨Nat.le_refl _, Nat.le_refl _⟩ (by decide) ⟨Nat.le_of_ble_eq_true rfl, Nat.le_of_ble_eq_true rfl⟩ ?_
        refine V_iconst (v := nI 0) dX8_carries_242 (by decide) ?_
        refine V_istore (i := 5) dX8_carries_243 (by decide) ?_
        by_cases h242 : (RP_carry2 u (RP_carry1 u P nc (nI j) (nI m)) j (pl - 1) (nI m)).1 = 0
        · have loop : ∀ n i : Nat, i + n = m → V D s0 RX8 "carries" cX8_carries 6 ((some .int)) [] l (rmd 3 0 0) (Zm D s0 0 0 (fun r G' => r = some (.int (R_carry u P nc pl (nI j) (nI m)).2.1) ∧ G' = HP A (rs σ (R_carry u P nc pl (nI j) (nI m)).1 (R_carry u P nc pl (nI j) (nI m)).2.2)) noX) 245 [(0, .ref (A 20 0 0)), (1, .int (nI j)), (2, .int (nI m)), (3, .int (u 3 - 1)), (4, .int (S_carry_t u j (pl - 1) (nI m))), (5, .int (nI i))] [] (HP A (rs σ (RP_carry2 u (RP_carry1 u P nc (nI j) (nI m)) j (pl - 1) (nI m)) (R_sks u j (pl - 1) i))) 0 0 := by
            intro n
            induction n with
            | zero =>
              intro i hi9
              obtain rfl : m = i := by omega
              refine V_iload (i := 5) dX8_carries_245 rfl ?_
              refine V_iload_n (i := 2) dX8_carries_247 rfl rfl ?_
              refine V_icmp_ge (tgt := 270) dX8_carries_248 (by decide) (fun _ => ?_) (fun h248 => by first | exact absurd (nI_le (Nat.le_refl _) (by omega)) h248 | exact absurd h248 (nI_le (Nat.le_refl _) (by omega)))
              refine V_iload (i := 4) dX8_carries_270 rfl ?_
              refine V_iret dX8_carries_272 rfl (Nat.le_of_ble_eq_true rfl) (Nat.le_of_ble_eq_true rfl) ?_
              refine rfin ?_
              rw [R_carry, if_pos h65, hc, hcm, if_pos h242]
            | succ n ih =>
              intro i hi9
              have k9 := ih (i + 1) (by omega)
              have hi8 : i < m := by omega
              refine V_iload (i := 5) dX8_carries_245 rfl ?_
              refine V_iload_n (i := 2) dX8_carries_247 rfl rfl ?_
              refine V_icmp_ge (tgt := 270) dX8_carries_248 (by decide) (fun h248 => by first | exact absurd h248 (nI_ge (by omega) (by omega)) | exact absurd (nI_ge (by omega) (by omega)) h248) (fun _ => ?_)
              refine V_aload_n (i := 0) dX8_carries_251 rfl rfl ?_
              refine V_getf fl_X8_41 dX8_carries_252 (hp20 hA) rfl ?_
              refine V_if_ne (tgt := 270) dX8_carries_255 (by decide) (fun h255 => by first | exact absurd h255 ((by rw [rs_15]; exact h242)) | exact absurd ((by rw [rs_15]; exact h242)) h255) (fun _ => ?_)
              refine V_aload_n (i := 0) dX8_carries_258 rfl rfl ?_
              refine V_iload_n (i := 1) dX8_carries_259 rfl rfl ?_
              refine V_iload_n (i := 3) dX8_carries_260 rfl rfl ?_
              refine Cv0_2 (d := 3) cv_X8_140 dX8_carries_261 (t_X8_sackGoesUp hA hh9.2 (by omega) (by omega) (by rw [R_sks_st (by omega) (by omega)]; exact hs9)) (hp20 hA) rfl rfl (Nat.le_of_ble_eq_true rfl) ⟨Nat.le_refl _, Nat.le_refl _⟩ (by decide) ⟨Nat.le_of_ble_eq_true rfl, Nat.le_of_ble_eq_true rfl⟩ ?_
              refine V_iinc (i := 5) dX8_carries_264 rfl (inc1 _) (by decide) ?_
              refine V_goto (tgt := 245) dX8_carries_267 (by decide) ?_
              refine V.fin [1, 2, 3, 4, 5, 0] rfl (congrArg (HP A) ?_) k9
              rfl
          exact V.fin [1, 2, 3, 4, 5, 0] rfl rfl (loop m 0 (by omega))
        · refine V_iload (i := 5) dX8_carries_245 rfl ?_
          refine V_iload_n (i := 2) dX8_carries_247 rfl rfl ?_
          refine V_icmp_ge (tgt := 270) dX8_carries_248 (by decide) (fun h248 => by first | exact absurd h248 (nI_ge (by omega) (by omega)) | exact absurd (nI_ge (by omega) (by omega)) h248) (fun _ => ?_)
          refine V_aload_n (i := 0) dX8_carries_251 rfl rfl ?_
          refine V_getf fl_X8_41 dX8_carries_252 (hp20 hA) rfl ?_
          refine V_if_ne (tgt := 270) dX8_carries_255 (by decide) (fun _ => ?_) (fun h255 => by first | exact absurd ((by rw [rs_15]; exact h242)) h255 | exact absurd h255 ((by rw [rs_15]; exact h242)))
          refine V_iload (i := 4) dX8_carries_270 rfl ?_
          refine V_iret dX8_carries_272 rfl (Nat.le_of_ble_eq_true rfl) (Nat.le_of_ble_eq_true rfl) ?_
          refine rfin ?_
          rw [R_carry, if_pos h65, hc, hcm, if_neg h242]
      have j212 : V D s0 RX8 "carries" cX8_carries 6 ((some .int)) [] l (rmd 3 0 0) (Zm D s0 0 0 (fun r G' => r = some (.int (R_carry u P nc pl (nI j) (nI m)).2.1) ∧ G' = HP A (rs σ (R_carry u P nc pl (nI j) (nI m)).1 (R_carry u P nc pl (nI j) (nI m)).2.2)) noX) 212 [(0, .ref (A 20 0 0)), (1, .int (nI j)), (2, .int (nI m)), (3, .int (u 3 - 1)), (4, .int (S_carry_t u j (pl - 1) (nI m)))] [.int (bi (decide (S_lets u (pl - 1) < nI m))), .ref (A 20 0 0)] (HP A (rs σ (hn (hn (hn (hn (RP_carry1 u P nc (nI j) (nI m)) (decide (u 4 < nI m)) 8 (u 4)) (decide (u (hx (pl - 1) 3) < nI m)) 9 (u (hx (pl - 1) 3))) (decide (12 < u (hx (pl - 1) 4))) 10 (u (hx (pl - 1) 4))) (decide (8 < u (hx (pl - 1) 5))) 11 (u (hx (pl - 1) 5))) u)) 0 0 := by
        refine V_bipush (v := 12) dX8_carries_212 (by decide) ?_
        refine V_aload_n (i := 0) dX8_carries_214 rfl rfl ?_
        refine V_iload_n (i := 3) dX8_carries_215 rfl rfl ?_
        refine Cv1_1 (d := 3) cv_X8_111 dX8_carries_216 (t_X8_letse hA hh9.2 (by omega) hd9 hb9) (hp20 hA) rfl rfl (Nat.le_of_ble_eq_true rfl) ⟨Nat.le_refl _, Nat.le_refl _⟩ (by decide) ⟨Nat.le_of_ble_eq_true rfl, Nat.le_of_ble_eq_true rfl⟩ ?_
        refine Cv0_3 (d := 3) cv_X8_92 dX8_carries_219 (t_X8_hinders hA) (hp20 hA) rfl rfl (Nat.le_of_ble_eq_true rfl) ⟨Nat.le_refl _, Nat.le_refl _⟩ (by decide) ⟨Nat.le_of_ble_eq_true rfl, Nat.le_of_ble_eq_true rfl⟩ ?_
        refine V_aload_n (i := 0) dX8_carries_222 rfl rfl ?_
        refine V_iload (i := 4) dX8_carries_223 rfl ?_
        refine V_bipush (v := 30) dX8_carries_225 (by decide) ?_
        refine V_icmp_le (tgt := 234) dX8_carries_227 (by decide) (fun h227 => ?_) (fun h227 => ?_)
        · replace h227 : ¬ 30 < S_carry_t u j (pl - 1) (nI m) := Int32.not_lt.mpr h227
          refine V_iconst (v := 0) dX8_carries_234 (by decide) ?_
          refine V.fin [0, 1, 2, 3, 4] rfl rfl (V.eqst ?_ j235)
          first
            | (simp [bi, *]; done)
            | (simp_all [bi]; done)
        · replace h227 : 30 < S_carry_t u j (pl - 1) (nI m) := Int32.not_le.mp h227
          refine V_iconst (v := 1) dX8_carries_230 (by decide) ?_
          refine V_goto (tgt := 235) dX8_carries_231 (by decide) ?_
          refine V.fin [0, 1, 2, 3, 4] rfl rfl (V.eqst ?_ j235)
          first
            | (simp [bi, *]; done)
            | (simp_all [bi]; done)
      have j186 : V D s0 RX8 "carries" cX8_carries 6 ((some .int)) [] l (rmd 3 0 0) (Zm D s0 0 0 (fun r G' => r = some (.int (R_carry u P nc pl (nI j) (nI m)).2.1) ∧ G' = HP A (rs σ (R_carry u P nc pl (nI j) (nI m)).1 (R_carry u P nc pl (nI j) (nI m)).2.2)) noX) 186 [(0, .ref (A 20 0 0)), (1, .int (nI j)), (2, .int (nI m)), (3, .int (u 3 - 1)), (4, .int (S_carry_t u j (pl - 1) (nI m)))] [.int (bi (decide (8 < u (hx (pl - 1) 5)))), .ref (A 20 0 0)] (HP A (rs σ (hn (hn (hn (RP_carry1 u P nc (nI j) (nI m)) (decide (u 4 < nI m)) 8 (u 4)) (decide (u (hx (pl - 1) 3) < nI m)) 9 (u (hx (pl - 1) 3))) (decide (12 < u (hx (pl - 1) 4))) 10 (u (hx (pl - 1) 4))) u)) 0 0 := by
        refine V_bipush (v := 11) dX8_carries_186 (by decide) ?_
        refine V_aload_n (i := 0) dX8_carries_188 rfl rfl ?_
        refine V_iload_n (i := 3) dX8_carries_189 rfl rfl ?_
        refine V_iconst (v := nI 5) dX8_carries_190 (by decide) ?_
        refine Cv1_2 (d := 3) cv_X8_74 dX8_carries_191 (t_X8_ofe hA hh9.2 (by omega) (by decide)) (hp20 hA) rfl rfl (Nat.le_of_ble_eq_true rfl) ⟨Nat.le_refl _, Nat.le_refl _⟩ (by decide) ⟨Nat.le_of_ble_eq_true rfl, Nat.le_of_ble_eq_true rfl⟩ ?_
        refine Cv0_3 (d := 3) cv_X8_92 dX8_carries_194 (t_X8_hinders hA) (hp20 hA) rfl rfl (Nat.le_of_ble_eq_true rfl) ⟨Nat.le_refl _, Nat.le_refl _⟩ (by decide) ⟨Nat.le_of_ble_eq_true rfl, Nat.le_of_ble_eq_true rfl⟩ ?_
        refine V_aload_n (i := 0) dX8_carries_197 rfl rfl ?_
        refine V_aload_n (i := 0) dX8_carries_198 rfl rfl ?_
        refine V_iload_n (i := 3) dX8_carries_199 rfl rfl ?_
        refine Cv1_1 (d := 3) cv_X8_111 dX8_carries_200 (t_X8_letse hA hh9.2 (by omega) hd9 hb9) (hp20 hA) rfl rfl (Nat.le_of_ble_eq_true rfl) ⟨Nat.le_refl _, Nat.le_refl _⟩ (by decide) ⟨Nat.le_of_ble_eq_true rfl, Nat.le_of_ble_eq_true rfl⟩ ?_
        refine V_iload_n (i := 2) dX8_carries_203 rfl rfl ?_
        refine V_icmp_ge (tgt := 211) dX8_carries_204 (by decide) (fun h204 => ?_) (fun h204 => ?_)
        · replace h204 := Int32.not_lt.mpr h204
          refine V_iconst (v := 0) dX8_carries_211 (by decide) ?_
          refine V.fin [0, 1, 2, 3, 4] rfl rfl (V.eqst ?_ j212)
          first
            | (simp [bi, *]; done)
            | (simp_all [bi]; done)
        · replace h204 := Int32.not_le.mp h204
          refine V_iconst (v := 1) dX8_carries_207 (by decide) ?_
          refine V_goto (tgt := 212) dX8_carries_208 (by decide) ?_
          refine V.fin [0, 1, 2, 3, 4] rfl rfl (V.eqst ?_ j212)
          first
            | (simp [bi, *]; done)
            | (simp_all [bi]; done)
      have j158 : V D s0 RX8 "carries" cX8_carries 6 ((some .int)) [] l (rmd 3 0 0) (Zm D s0 0 0 (fun r G' => r = some (.int (R_carry u P nc pl (nI j) (nI m)).2.1) ∧ G' = HP A (rs σ (R_carry u P nc pl (nI j) (nI m)).1 (R_carry u P nc pl (nI j) (nI m)).2.2)) noX) 158 [(0, .ref (A 20 0 0)), (1, .int (nI j)), (2, .int (nI m)), (3, .int (u 3 - 1)), (4, .int (S_carry_t u j (pl - 1) (nI m)))] [.int (bi (decide (12 < u (hx (pl - 1) 4)))), .ref (A 20 0 0)] (HP A (rs σ (hn (hn (RP_carry1 u P nc (nI j) (nI m)) (decide (u 4 < nI m)) 8 (u 4)) (decide (u (hx (pl - 1) 3) < nI m)) 9 (u (hx (pl - 1) 3))) u)) 0 0 := by
        refine V_bipush (v := 10) dX8_carries_158 (by decide) ?_
        refine V_aload_n (i := 0) dX8_carries_160 rfl rfl ?_
        refine V_iload_n (i := 3) dX8_carries_161 rfl rfl ?_
        refine V_iconst (v := nI 4) dX8_carries_162 (by decide) ?_
        refine Cv1_2 (d := 3) cv_X8_74 dX8_carries_163 (t_X8_ofe hA hh9.2 (by omega) (by decide)) (hp20 hA) rfl rfl (Nat.le_of_ble_eq_true rfl) ⟨Nat.le_refl _, Nat.le_refl _⟩ (by decide) ⟨Nat.le_of_ble_eq_true rfl, Nat.le_of_ble_eq_true rfl⟩ ?_
        refine Cv0_3 (d := 3) cv_X8_92 dX8_carries_166 (t_X8_hinders hA) (hp20 hA) rfl rfl (Nat.le_of_ble_eq_true rfl) ⟨Nat.le_refl _, Nat.le_refl _⟩ (by decide) ⟨Nat.le_of_ble_eq_true rfl, Nat.le_of_ble_eq_true rfl⟩ ?_
        refine V_aload_n (i := 0) dX8_carries_169 rfl rfl ?_
        refine V_aload_n (i := 0) dX8_carries_170 rfl rfl ?_
        refine V_iload_n (i := 3) dX8_carries_171 rfl rfl ?_
        refine V_iconst (v := nI 5) dX8_carries_172 (by decide) ?_
        refine Cv1_2 (d := 3) cv_X8_74 dX8_carries_173 (t_X8_ofe hA hh9.2 (by omega) (by decide)) (hp20 hA) rfl rfl (Nat.le_of_ble_eq_true rfl) ⟨Nat.le_refl _, Nat.le_refl _⟩ (by decide) ⟨Nat.le_of_ble_eq_true rfl, Nat.le_of_ble_eq_true rfl⟩ ?_
        refine V_bipush (v := 8) dX8_carries_176 (by decide) ?_
        refine V_icmp_le (tgt := 185) dX8_carries_178 (by decide) (fun h178 => ?_) (fun h178 => ?_)
        · replace h178 := Int32.not_lt.mpr h178
          refine V_iconst (v := 0) dX8_carries_185 (by decide) ?_
          refine V.fin [0, 1, 2, 3, 4] rfl rfl (V.eqst ?_ j186)
          first
            | (simp [bi, *]; done)
            | (simp_all [bi]; done)
        · replace h178 := Int32.not_le.mp h178
          refine V_iconst (v := 1) dX8_carries_181 (by decide) ?_
          refine V_goto (tgt := 186) dX8_carries_182 (by decide) ?_
          refine V.fin [0, 1, 2, 3, 4] rfl rfl (V.eqst ?_ j186)
          first
            | (simp [bi, *]; done)
            | (simp_all [bi]; done)
      have j130 : V D s0 RX8 "carries" cX8_carries 6 ((some .int)) [] l (rmd 3 0 0) (Zm D s0 0 0 (fun r G' => r = some (.int (R_carry u P nc pl (nI j) (nI m)).2.1) ∧ G' = HP A (rs σ (R_carry u P nc pl (nI j) (nI m)).1 (R_carry u P nc pl (nI j) (nI m)).2.2)) noX) 130 [(0, .ref (A 20 0 0)), (1, .int (nI j)), (2, .int (nI m)), (3, .int (u 3 - 1)), (4, .int (S_carry_t u j (pl - 1) (nI m)))] [.int (bi (decide (u (hx (pl - 1) 3) < nI m))), .ref (A 20 0 0)] (HP A (rs σ (hn (RP_carry1 u P nc (nI j) (nI m)) (decide (u 4 < nI m)) 8 (u 4)) u)) 0 0 := by
        refine V_bipush (v := 9) dX8_carries_130 (by decide) ?_
        refine V_aload_n (i := 0) dX8_carries_132 rfl rfl ?_
        refine V_iload_n (i := 3) dX8_carries_133 rfl rfl ?_
        refine V_iconst (v := nI 3) dX8_carries_134 (by decide) ?_
        refine Cv1_2 (d := 3) cv_X8_74 dX8_carries_135 (t_X8_ofe hA hh9.2 (by omega) (by decide)) (hp20 hA) rfl rfl (Nat.le_of_ble_eq_true rfl) ⟨Nat.le_refl _, Nat.le_refl _⟩ (by decide) ⟨Nat.le_of_ble_eq_true rfl, Nat.le_of_ble_eq_true rfl⟩ ?_
        refine Cv0_3 (d := 3) cv_X8_92 dX8_carries_138 (t_X8_hinders hA) (hp20 hA) rfl rfl (Nat.le_of_ble_eq_true rfl) ⟨Nat.le_refl _, Nat.le_refl _⟩ (by decide) ⟨Nat.le_of_ble_eq_true rfl, Nat.le_of_ble_eq_true rfl⟩ ?_
        refine V_aload_n (i := 0) dX8_carries_141 rfl rfl ?_
        refine V_aload_n (i := 0) dX8_carries_142 rfl rfl ?_
        refine V_iload_n (i := 3) dX8_carries_143 rfl rfl ?_
        refine V_iconst (v := nI 4) dX8_carries_144 (by decide) ?_
        refine Cv1_2 (d := 3) cv_X8_74 dX8_carries_145 (t_X8_ofe hA hh9.2 (by omega) (by decide)) (hp20 hA) rfl rfl (Nat.le_of_ble_eq_true rfl) ⟨Nat.le_refl _, Nat.le_refl _⟩ (by decide) ⟨Nat.le_of_ble_eq_true rfl, Nat.le_of_ble_eq_true rfl⟩ ?_
        refine V_bipush (v := 12) dX8_carries_148 (by decide) ?_
        refine V_icmp_le (tgt := 157) dX8_carries_150 (by decide) (fun h150 => ?_) (fun h150 => ?_)
        · replace h150 := Int32.not_lt.mpr h150
          refine V_iconst (v := 0) dX8_carries_157 (by decide) ?_
          refine V.fin [0, 1, 2, 3, 4] rfl rfl (V.eqst ?_ j158)
          first
            | (simp [bi, *]; done)
            | (simp_all [bi]; done)
        · replace h150 := Int32.not_le.mp h150
          refine V_iconst (v := 1) dX8_carries_153 (by decide) ?_
          refine V_goto (tgt := 158) dX8_carries_154 (by decide) ?_
          refine V.fin [0, 1, 2, 3, 4] rfl rfl (V.eqst ?_ j158)
          first
            | (simp [bi, *]; done)
            | (simp_all [bi]; done)
      have j103 : V D s0 RX8 "carries" cX8_carries 6 ((some .int)) [] l (rmd 3 0 0) (Zm D s0 0 0 (fun r G' => r = some (.int (R_carry u P nc pl (nI j) (nI m)).2.1) ∧ G' = HP A (rs σ (R_carry u P nc pl (nI j) (nI m)).1 (R_carry u P nc pl (nI j) (nI m)).2.2)) noX) 103 [(0, .ref (A 20 0 0)), (1, .int (nI j)), (2, .int (nI m)), (3, .int (u 3 - 1)), (4, .int (S_carry_t u j (pl - 1) (nI m)))] [.int (bi (decide (u 4 < nI m))), .ref (A 20 0 0)] (HP A (rs σ (RP_carry1 u P nc (nI j) (nI m)) u)) 0 0 := by
        refine V_bipush (v := 8) dX8_carries_103 (by decide) ?_
        refine V_aload_n (i := 0) dX8_carries_105 rfl rfl ?_
        refine V_getf fl_X8_9 dX8_carries_106 (hp20 hA) rfl ?_
        refine V_iconst (v := nI 4) dX8_carries_109 (by decide) ?_
        refine VL_21 dX8_carries_110 hA rfl (by omega) ?_
        refine Cv0_3 (d := 3) cv_X8_92 dX8_carries_111 (t_X8_hinders hA) (hp20 hA) rfl rfl (Nat.le_of_ble_eq_true rfl) ⟨Nat.le_refl _, Nat.le_refl _⟩ (by decide) ⟨Nat.le_of_ble_eq_true rfl, Nat.le_of_ble_eq_true rfl⟩ ?_
        refine V_aload_n (i := 0) dX8_carries_114 rfl rfl ?_
        refine V_aload_n (i := 0) dX8_carries_115 rfl rfl ?_
        refine V_iload_n (i := 3) dX8_carries_116 rfl rfl ?_
        refine V_iconst (v := nI 3) dX8_carries_117 (by decide) ?_
        refine Cv1_2 (d := 3) cv_X8_74 dX8_carries_118 (t_X8_ofe hA hh9.2 (by omega) (by decide)) (hp20 hA) rfl rfl (Nat.le_of_ble_eq_true rfl) ⟨Nat.le_refl _, Nat.le_refl _⟩ (by decide) ⟨Nat.le_of_ble_eq_true rfl, Nat.le_of_ble_eq_true rfl⟩ ?_
        refine V_iload_n (i := 2) dX8_carries_121 rfl rfl ?_
        refine V_icmp_ge (tgt := 129) dX8_carries_122 (by decide) (fun h122 => ?_) (fun h122 => ?_)
        · replace h122 := Int32.not_lt.mpr h122
          refine V_iconst (v := 0) dX8_carries_129 (by decide) ?_
          refine V.fin [0, 1, 2, 3, 4] rfl rfl (V.eqst ?_ j130)
          first
            | (simp [bi, *]; done)
            | (simp_all [bi]; done)
        · replace h122 := Int32.not_le.mp h122
          refine V_iconst (v := 1) dX8_carries_125 (by decide) ?_
          refine V_goto (tgt := 130) dX8_carries_126 (by decide) ?_
          refine V.fin [0, 1, 2, 3, 4] rfl rfl (V.eqst ?_ j130)
          first
            | (simp [bi, *]; done)
            | (simp_all [bi]; done)
      refine V_aload_n (i := 0) dX8_carries_70 rfl rfl ?_
      refine V_iload_n (i := 1) dX8_carries_71 rfl rfl ?_
      refine V_iconst (v := nI 1) dX8_carries_72 (by decide) ?_
      refine Cv1_2 (d := 3) cv_X8_83 dX8_carries_73 (t_X8_ofCarrier hA (by omega) (by decide)) (hp20 hA) rfl rfl (Nat.le_of_ble_eq_true rfl) ⟨Nat.le_refl _, Nat.le_refl _⟩ (by decide) ⟨Nat.le_of_ble_eq_true rfl, Nat.le_of_ble_eq_true rfl⟩ ?_
      refine V_iload_n (i := 2) dX8_carries_76 rfl rfl ?_
      refine V_aload_n (i := 0) dX8_carries_77 rfl rfl ?_
      refine V_iload_n (i := 1) dX8_carries_78 rfl rfl ?_
      refine V_iload_n (i := 3) dX8_carries_79 rfl rfl ?_
      refine Cv1_2 (d := 3) cv_X8_86 dX8_carries_80 (t_X8_tiredBye hA hh9.2 (by omega) (by omega) hs9) (hp20 hA) rfl rfl (Nat.le_of_ble_eq_true rfl) ⟨Nat.le_refl _, Nat.le_refl _⟩ (by decide) ⟨Nat.le_of_ble_eq_true rfl, Nat.le_of_ble_eq_true rfl⟩ ?_
      refine V_imul dX8_carries_83 ?_
      refine V_iadd dX8_carries_84 ?_
      refine V_istore (i := 4) dX8_carries_85 (by decide) ?_
      refine V_aload_n (i := 0) dX8_carries_87 rfl rfl ?_
      refine V_aload_n (i := 0) dX8_carries_88 rfl rfl ?_
      refine V_getf fl_X8_9 dX8_carries_89 (hp20 hA) rfl ?_
      refine V_iconst (v := nI 4) dX8_carries_92 (by decide) ?_
      refine VL_21 dX8_carries_93 hA rfl (by omega) ?_
      refine V_iload_n (i := 2) dX8_carries_94 rfl rfl ?_
      refine V_icmp_ge (tgt := 102) dX8_carries_95 (by decide) (fun h95 => ?_) (fun h95 => ?_)
      · replace h95 := Int32.not_lt.mpr h95
        refine V_iconst (v := 0) dX8_carries_102 (by decide) ?_
        refine V.fin [1, 2, 3, 4, 0] rfl rfl (V.eqst ?_ j103)
        first
          | (simp [bi, *]; done)
          | (simp_all [bi]; done)
      · replace h95 := Int32.not_le.mp h95
        refine V_iconst (v := 1) dX8_carries_98 (by decide) ?_
        refine V_goto (tgt := 103) dX8_carries_99 (by decide) ?_
        refine V.fin [1, 2, 3, 4, 0] rfl rfl (V.eqst ?_ j103)
        first
          | (simp [bi, *]; done)
          | (simp_all [bi]; done)
    · rw [rs_15] at h65
      refine V_iconst (v := 0) dX8_carries_68 (by decide) ?_
      refine V_iret dX8_carries_69 rfl (Nat.le_of_ble_eq_true rfl) (Nat.le_of_ble_eq_true rfl) ?_
      refine rfin ?_
      rw [R_carry, if_neg h65]
  have j40 : V D s0 RX8 "carries" cX8_carries 6 ((some .int)) [] l (rmd 3 0 0) (Zm D s0 0 0 (fun r G' => r = some (.int (R_carry u P nc pl x n).2.1) ∧ G' = HP A (rs σ (R_carry u P nc pl x n).1 (R_carry u P nc pl x n).2.2)) noX) 40 [(0, .ref (A 20 0 0)), (1, .int x), (2, .int n), (3, .int (u 3 - 1))] [.int (bi (ob n 1 9)), .ref (A 20 0 0)] (HP A (rs σ (hn P (ob x 0 (nI nc - 1)) 3 x) u)) 0 0 := by
    refine V_iconst (v := 1) dX8_carries_40 (by decide) ?_
    refine V_iconst (v := 0) dX8_carries_41 (by decide) ?_
    refine Cv0_3 (d := 3) cv_X8_92 dX8_carries_42 (t_X8_hinders hA) (hp20 hA) rfl rfl (Nat.le_of_ble_eq_true rfl) ⟨Nat.le_refl _, Nat.le_refl _⟩ (by decide) ⟨Nat.le_of_ble_eq_true rfl, Nat.le_of_ble_eq_true rfl⟩ ?_
    refine V_aload_n (i := 0) dX8_carries_45 rfl rfl ?_
    refine V_iload_n (i := 3) dX8_carries_46 rfl rfl ?_
    refine V_if_ge (tgt := 54) dX8_carries_47 (by decide) (fun h47 => ?_) (fun h47 => ?_)
    · replace h47 : ¬ u 3 - 1 < 0 := Int32.not_lt.mpr h47
      refine V_iconst (v := 0) dX8_carries_54 (by decide) ?_
      refine V.fin [0, 1, 2, 3] rfl rfl (V.eqst ?_ j55)
      first
        | (simp [bi, *]; done)
        | (simp_all [bi]; done)
    · replace h47 : u 3 - 1 < 0 := Int32.not_le.mp h47
      refine V_iconst (v := 1) dX8_carries_50 (by decide) ?_
      refine V_goto (tgt := 55) dX8_carries_51 (by decide) ?_
      refine V.fin [0, 1, 2, 3] rfl rfl (V.eqst ?_ j55)
      first
        | (simp [bi, *]; done)
        | (simp_all [bi]; done)
  have j19 : V D s0 RX8 "carries" cX8_carries 6 ((some .int)) [] l (rmd 3 0 0) (Zm D s0 0 0 (fun r G' => r = some (.int (R_carry u P nc pl x n).2.1) ∧ G' = HP A (rs σ (R_carry u P nc pl x n).1 (R_carry u P nc pl x n).2.2)) noX) 19 [(0, .ref (A 20 0 0)), (1, .int x), (2, .int n), (3, .int (u 3 - 1))] [.int (bi (ob x 0 (nI nc - 1))), .ref (A 20 0 0)] (HP A (rs σ P u)) 0 0 := by
    refine V_iconst (v := 3) dX8_carries_19 (by decide) ?_
    refine V_iload_n (i := 1) dX8_carries_20 rfl rfl ?_
    refine Cv0_3 (d := 3) cv_X8_92 dX8_carries_21 (t_X8_hinders hA) (hp20 hA) rfl rfl (Nat.le_of_ble_eq_true rfl) ⟨Nat.le_refl _, Nat.le_refl _⟩ (by decide) ⟨Nat.le_of_ble_eq_true rfl, Nat.le_of_ble_eq_true rfl⟩ ?_
    refine V_aload_n (i := 0) dX8_carries_24 rfl rfl ?_
    refine V_iload_n (i := 2) dX8_carries_25 rfl rfl ?_
    refine V_iconst (v := 1) dX8_carries_26 (by decide) ?_
    refine V_bipush (v := 9) dX8_carries_27 (by decide) ?_
    refine Cs1_3 (d := 3) cs_X8_66 dX8_carries_29 (t_X8_isIn hA) (Nat.le_of_ble_eq_true rfl) ⟨Nat.le_refl _, Nat.le_refl _⟩ (by decide) ⟨Nat.le_of_ble_eq_true rfl, Nat.le_of_ble_eq_true rfl⟩ ?_
    refine V_if_ne (tgt := 39) dX8_carries_32 (by decide) (fun h32 => ?_) (fun h32 => ?_)
    · replace h32 := bi_1.mp h32
      refine V_iconst (v := 0) dX8_carries_39 (by decide) ?_
      refine V.fin [0, 1, 2, 3] rfl rfl (V.eqst ?_ j40)
      first
        | (simp [bi, *]; done)
        | (simp_all [bi]; done)
    · replace h32 := bi_0.mp h32
      refine V_iconst (v := 1) dX8_carries_35 (by decide) ?_
      refine V_goto (tgt := 40) dX8_carries_36 (by decide) ?_
      refine V.fin [0, 1, 2, 3] rfl rfl (V.eqst ?_ j40)
      first
        | (simp [bi, *]; done)
        | (simp_all [bi]; done)
  refine V_aload_n (i := 0) dX8_carries_0 rfl rfl ?_
  refine Cv1_0 (d := 3) cv_X8_137 dX8_carries_1 (t_X8_here hA) (hp20 hA) rfl rfl (Nat.le_of_ble_eq_true rfl) ⟨Nat.le_refl _, Nat.le_refl _⟩ (by decide) ⟨Nat.le_of_ble_eq_true rfl, Nat.le_of_ble_eq_true rfl⟩ ?_
  refine V_istore_n (i := 3) dX8_carries_4 rfl (by decide) ?_
  refine V_aload_n (i := 0) dX8_carries_5 rfl rfl ?_
  refine V_aload_n (i := 0) dX8_carries_6 rfl rfl ?_
  refine V_iload_n (i := 1) dX8_carries_7 rfl rfl ?_
  refine Cv1_1 (d := 3) cv_X8_115 dX8_carries_8 (t_X8_isCarrier hA h2) (hp20 hA) rfl rfl (Nat.le_of_ble_eq_true rfl) ⟨Nat.le_refl _, Nat.le_refl _⟩ (by decide) ⟨Nat.le_of_ble_eq_true rfl, Nat.le_of_ble_eq_true rfl⟩ ?_
  refine V_if_ne (tgt := 18) dX8_carries_11 (by decide) (fun h11 => ?_) (fun h11 => ?_)
  · replace h11 := bi_1.mp h11
    refine V_iconst (v := 0) dX8_carries_18 (by decide) ?_
    refine V.fin [1, 2, 3, 0] rfl rfl (V.eqst ?_ j19)
    first
      | (simp [bi, *]; done)
      | (simp_all [bi]; done)
  · replace h11 := bi_0.mp h11
    refine V_iconst (v := 1) dX8_carries_14 (by decide) ?_
    refine V_goto (tgt := 19) dX8_carries_15 (by decide) ?_
    refine V.fin [1, 2, 3, 0] rfl rfl (V.eqst ?_ j19)
    first
      | (simp [bi, *]; done)
      | (simp_all [bi]; done)
