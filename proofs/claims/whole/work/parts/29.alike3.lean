/-! carrying: class and reference alike; what a change leaves keeps its bounds -/
def bl (w : Nat → Int32) (c : Nat) : Int32 := if w (kx c 2) + 1 < 9 then w (kx c 2) + 1 else 9
theorem S_sack_e {w : Nat → Int32} {c h : Nat} (hh : h < 8) : S_sack w c h = up (up (up (up (up (up (up (up w (kx c 1) (w (kx c 1) + S_tired w c h)) (kx c 2) (bl w c)) (kx c 3) (w (kx c 3) + 1)) (hx h 3) (w (hx h 3) - 1)) (hx h 4) (w (hx h 4) + 3)) (hx h 5) (w (hx h 5) + bl w c / 3)) (hx h 6) (w (hx h 6) + 1)) (hx h 8) (w (hx h 8) + 1) := by
  have kk : ∀ (v : Nat → Int32) (f g : Nat) (y : Int32), f < 4 → g < 4 → ¬ g = f → up v (kx c f) y (kx c g) = v (kx c g) := fun v f g y a b n => up_ne (kk_ne b a n)
  have kh : ∀ (v : Nat → Int32) (f g : Nat) (y : Int32), g < 9 → up v (kx c f) y (hx h g) = v (hx h g) := fun v f g y a => up_ne (fun z => kh_ne hh a z.symm)
  have hh' : ∀ (v : Nat → Int32) (f g : Nat) (y : Int32), f < 9 → g < 9 → ¬ g = f → up v (hx h f) y (hx h g) = v (hx h g) := fun v f g y a b n => up_ne (hh_ne b a n)
  unfold S_sack S_take bl
  dsimp only
  rw [kk _ 1 2 _ (by decide) (by decide) (by decide), kk _ 2 3 _ (by decide) (by decide) (by decide), kk _ 1 3 _ (by decide) (by decide) (by decide), kk _ 3 2 _ (by decide) (by decide) (by decide), up_at,
    kh _ 3 3 _ (by decide), kh _ 2 3 _ (by decide), kh _ 1 3 _ (by decide),
    hh' _ 3 4 _ (by decide) (by decide) (by decide), kh _ 3 4 _ (by decide), kh _ 2 4 _ (by decide), kh _ 1 4 _ (by decide),
    hh' _ 4 5 _ (by decide) (by decide) (by decide), hh' _ 3 5 _ (by decide) (by decide) (by decide), kh _ 3 5 _ (by decide), kh _ 2 5 _ (by decide), kh _ 1 5 _ (by decide),
    hh' _ 5 6 _ (by decide) (by decide) (by decide), hh' _ 4 6 _ (by decide) (by decide) (by decide), hh' _ 3 6 _ (by decide) (by decide) (by decide), kh _ 3 6 _ (by decide), kh _ 2 6 _ (by decide), kh _ 1 6 _ (by decide),
    hh' _ 6 8 _ (by decide) (by decide) (by decide), hh' _ 5 8 _ (by decide) (by decide) (by decide), hh' _ 4 8 _ (by decide) (by decide) (by decide), hh' _ 3 8 _ (by decide) (by decide) (by decide), kh _ 3 8 _ (by decide), kh _ 2 8 _ (by decide), kh _ 1 8 _ (by decide)]
theorem S_sack_k {w : Nat → Int32} {c h g : Nat} (hh : h < 8) (hg : g < 4) (n : ¬ g = 1) (n2 : ¬ g = 2) (n3 : ¬ g = 3) : S_sack w c h (kx c g) = w (kx c g) := by
  rw [S_sack_e hh, up_ne (kh_ne hh (by decide)), up_ne (kh_ne hh (by decide)), up_ne (kh_ne hh (by decide)), up_ne (kh_ne hh (by decide)), up_ne (kh_ne hh (by decide)), up_ne (kk_ne hg (by decide) n3), up_ne (kk_ne hg (by decide) n2), up_ne (kk_ne hg (by decide) n)]
theorem S_sack_k1 {w : Nat → Int32} {c h : Nat} (hh : h < 8) : S_sack w c h (kx c 1) = w (kx c 1) + S_tired w c h := by
  rw [S_sack_e hh, up_ne (kh_ne hh (by decide)), up_ne (kh_ne hh (by decide)), up_ne (kh_ne hh (by decide)), up_ne (kh_ne hh (by decide)), up_ne (kh_ne hh (by decide)), up_ne (kk_ne (by decide) (by decide) (by decide)), up_ne (kk_ne (by decide) (by decide) (by decide)), up_at]
theorem S_sack_h0 {w : Nat → Int32} {c h : Nat} (hh : h < 8) : S_sack w c h (hx h 0) = w (hx h 0) := by
  rw [S_sack_e hh, up_ne (hh_ne (by decide) (by decide) (by decide)), up_ne (hh_ne (by decide) (by decide) (by decide)), up_ne (hh_ne (by decide) (by decide) (by decide)), up_ne (hh_ne (by decide) (by decide) (by decide)), up_ne (hh_ne (by decide) (by decide) (by decide)), up_ne (fun z => kh_ne hh (by decide) z.symm), up_ne (fun z => kh_ne hh (by decide) z.symm), up_ne (fun z => kh_ne hh (by decide) z.symm)]
theorem S_sack_h3 {w : Nat → Int32} {c h : Nat} (hh : h < 8) : S_sack w c h (hx h 3) = w (hx h 3) - 1 := by
  rw [S_sack_e hh, up_ne (hh_ne (by decide) (by decide) (by decide)), up_ne (hh_ne (by decide) (by decide) (by decide)), up_ne (hh_ne (by decide) (by decide) (by decide)), up_ne (hh_ne (by decide) (by decide) (by decide)), up_at]
theorem S_sack_h4 {w : Nat → Int32} {c h : Nat} (hh : h < 8) : S_sack w c h (hx h 4) = w (hx h 4) + 3 := by
  rw [S_sack_e hh, up_ne (hh_ne (by decide) (by decide) (by decide)), up_ne (hh_ne (by decide) (by decide) (by decide)), up_ne (hh_ne (by decide) (by decide) (by decide)), up_at]
theorem S_sack_h5 {w : Nat → Int32} {c h : Nat} (hh : h < 8) : S_sack w c h (hx h 5) = w (hx h 5) + bl w c / 3 := by
  rw [S_sack_e hh, up_ne (hh_ne (by decide) (by decide) (by decide)), up_ne (hh_ne (by decide) (by decide) (by decide)), up_at]
theorem S_sack_lo {w : Nat → Int32} {c h j : Nat} (hh : h < 8) (hj : j < 14) : S_sack w c h j = w j := by
  rw [S_sack_e hh, up_ne (fun z => hl_ne hj z.symm), up_ne (fun z => hl_ne hj z.symm), up_ne (fun z => hl_ne hj z.symm), up_ne (fun z => hl_ne hj z.symm), up_ne (fun z => hl_ne hj z.symm), up_ne (fun z => kl_ne hj z.symm), up_ne (fun z => kl_ne hj z.symm), up_ne (fun z => kl_ne hj z.symm)]
theorem S_sks_tired {w : Nat → Int32} {c h : Nat} (hh : h < 8) : ∀ i, S_tired (S_sks w c h i) c h = S_tired w c h
  | 0 => rfl
  | i + 1 => by
    rw [S_sks]
    exact (S_tired_cg (S_sack_k hh (by decide) (by decide) (by decide) (by decide)) (S_sack_h0 hh)).trans (S_sks_tired hh i)
theorem S_sks_k1 {w : Nat → Int32} {c h : Nat} (hh : h < 8) : ∀ i, S_sks w c h i (kx c 1) = w (kx c 1) + nI i * S_tired w c h
  | 0 => by rw [S_sks, nI_0, Int32.zero_mul, Int32.add_zero]
  | i + 1 => by rw [S_sks, S_sack_k1 hh, S_sks_k1 hh i, S_sks_tired hh, nI_succ, Int32.add_mul, Int32.one_mul, Int32.add_assoc]
theorem S_sks_lo {w : Nat → Int32} {c h j : Nat} (hh : h < 8) (hj : j < 14) : ∀ i, S_sks w c h i j = w j
  | 0 => rfl
  | i + 1 => by rw [S_sks, S_sack_lo hh hj, S_sks_lo hh hj i]
theorem S_carry_k1 {w : Nat → Int32} {c h i : Nat} (hh : h < 8) : S_carry_w w c h i (kx c 1) = S_carry_t w c h (nI i) := by
  rw [S_carry_w, up_ne (kl_ne (by decide)), S_sks_k1 hh, S_carry_t]
theorem RS_carry {u : Nat → Int32} {b x n : Int32} {nc pl : Nat} (hm : nc ≤ 4) (h3 : u 3 = nI pl) (hp : pl ≤ 8) : RSok (0, b) (R_carry u (0, b) nc pl x n) (S_carry u nc pl x n) := by
  have e3 := pl_lt h3 hp
  unfold RSok R_carry S_carry S_hby
  by_cases h0 : ob x 0 (nI nc - 1) = true
  · simp [RP_carry1, hn, h0]
  · by_cases hn1 : ob n 1 9 = true
    · simp [RP_carry1, hn, h0, hn1]
    · by_cases h1 : pl = 0
      · have h1b : u 3 - 1 < 0 := e3.mpr h1
        simp [RP_carry1, hn, h0, hn1, h1, h1b]
      · have h1b : ¬ u 3 - 1 < 0 := fun z => h1 (e3.mp z)
        obtain ⟨c, hc, rfl⟩ := ob_ex (n := nc) (by omega) (Bool.not_eq_true _ ▸ h0 : ob x 0 (nI nc - 1) = false)
        obtain ⟨k, hk1, hk9, rfl⟩ := ob_ex2 (a := 1) (b := 9) (by decide) (by decide) (Bool.not_eq_true _ ▸ hn1 : ob n (nI 1) (nI 9) = false)
        rw [nI_clamp (by omega : c < 2 ^ 31), nI_clamp (by omega : k < 2 ^ 31), S_carry_k1 (by omega), R_sks_C (by omega) (by omega)]
        by_cases a1 : u 4 < nI k
        · simp [RP_carry1, RP_carry2, hn, h0, hn1, h1, h1b, a1]
        · by_cases a2 : u (hx (pl - 1) 3) < nI k
          · simp [RP_carry1, RP_carry2, hn, h0, hn1, h1, h1b, a1, a2]
          · by_cases a3 : 12 < u (hx (pl - 1) 4)
            · simp [RP_carry1, RP_carry2, hn, h0, hn1, h1, h1b, a1, a2, a3]
            · by_cases a4 : 8 < u (hx (pl - 1) 5)
              · simp [RP_carry1, RP_carry2, hn, h0, hn1, h1, h1b, a1, a2, a3, a4]
              · by_cases a5 : S_lets u (pl - 1) < nI k
                · simp [RP_carry1, RP_carry2, hn, h0, hn1, h1, h1b, a1, a2, a3, a4, a5]
                · by_cases a6 : 30 < S_carry_t u c (pl - 1) (nI k)
                  · simp [RP_carry1, RP_carry2, hn, h0, hn1, h1, h1b, a1, a2, a3, a4, a5, a6]
                  · simp [RP_carry1, RP_carry2, hn, h0, hn1, h1, h1b, a1, a2, a3, a4, a5, a6]
theorem RS_cmd {m : Nat} {u : Nat → Int32} (hW : Wok m u) (hm : m ≤ 1000) {b x n : Int32} {nh nc pl q : Nat} (e1 : u 1 = nI nh) (hn8 : nh ≤ 8) (hc4 : nc ≤ 4) (h3 : u 3 = nI pl) (hp : pl ≤ 8) : RSok (0, b) (R_cmd u (0, b) nh nc pl q x n) (S_cmd u nh nc pl q x n) := by
  rcases q with _ | _ | _ | _ | _ | _ | _ | q
  · exact RS_drive e1
  · exact RS_load
  · exact RS_carry hc4 h3 hp
  · exact RS_bone hW hm h3 hp
  · exact RS_mop hc4 h3 hp
  · exact RS_pay
  · exact RS_shoe
  · exact RS_days hn8

