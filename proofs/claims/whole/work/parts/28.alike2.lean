/-! days and sacks: class and reference alike; what a change leaves keeps its bounds -/
theorem S_hday_hi {w : Nat → Int32} {i j : Nat} (hi : i < 8) (h : 86 ≤ j) : S_hday w i j = w j := by
  unfold S_hday
  rw [up_ne (by unfold hx; omega), up_ne (by unfold hx; omega)]
theorem S_hweek_hi {w : Nat → Int32} {i j : Nat} (hi : i < 8) (h : 86 ≤ j) : S_hweek w i j = w j := by
  unfold S_hweek
  rw [up_ne (by unfold hx; omega)]
theorem S_dayh_hi {w : Nat → Int32} {nw : Bool} {j : Nat} (h : 86 ≤ j) : ∀ i, i ≤ 8 → S_dayh w nw i j = w j
  | 0, _ => rfl
  | i + 1, hi => by
    unfold S_dayh
    split
    · rw [S_hweek_hi (by omega) h, S_hday_hi (by omega) h, S_dayh_hi h i (by omega)]
    · rw [S_hday_hi (by omega) h, S_dayh_hi h i (by omega)]
theorem S_dayh_cg {w v : Nat → Int32} {nw : Bool} (h : ∀ j, j < 86 → w j = v j) : ∀ i, i ≤ 8 → ∀ j, j < 86 → S_dayh w nw i j = S_dayh v nw i j
  | 0, _ => h
  | i + 1, hi => fun j hj => by
    have q := S_dayh_cg (nw := nw) h i (by omega)
    have e1 : ∀ k, k < 86 → S_hday (S_dayh w nw i) i k = S_hday (S_dayh v nw i) i k := fun k hk => by
      unfold S_hday up
      rw [q k hk]
    unfold S_dayh
    split
    · unfold S_hweek up
      rw [e1 (hx i 3) (by unfold hx; omega), e1 (hx i 2) (by unfold hx; omega), e1 j hj]
    · exact e1 j hj
theorem S_dayc_cg {w v : Nat → Int32} (h : ∀ j, 86 ≤ j → w j = v j) : ∀ i j, 86 ≤ j → S_dayc w i j = S_dayc v i j
  | 0 => h
  | i + 1 => fun j hj => by
    have q := S_dayc_cg h i
    unfold S_dayc S_cday up
    rw [q (kx i 1) (by unfold kx; omega), q j hj]
theorem R_day_S {w : Nat → Int32} {nh nc : Nat} (hn : nh ≤ 8) : R_day w nh nc = S_day w nh nc := by
  unfold R_day S_day
  generalize up w 0 (w 0 + 1) = v
  funext j
  by_cases hj : j < 86
  · rw [S_dayc_lo hj]
    exact S_dayh_cg (fun k hk => S_dayc_lo hk nc) nh hn j hj
  · rw [S_dayh_hi (by omega) nh hn]
    exact (S_dayc_cg (fun k hk => S_dayh_hi hk nh hn) nc j (by omega)).symm
theorem R_dys_S {w : Nat → Int32} {nh nc : Nat} (hn : nh ≤ 8) : ∀ i, R_dys w nh nc i = S_dys w nh nc i
  | 0 => rfl
  | i + 1 => by rw [R_dys, S_dys, R_dys_S hn i, R_day_S hn]
theorem RS_days {u : Nat → Int32} {b x : Int32} {nh nc : Nat} (hn9 : nh ≤ 8) : RSok (0, b) (R_days u (0, b) nh nc x) (S_days u nh nc x) := by
  unfold RSok R_days S_days
  rw [R_dys_S hn9]
  by_cases h1 : ob x 1 30 = true
  · simp [RP_days, hn, h1]
  · simp [RP_days, hn, h1]
/-- a sack, in both orders -/
theorem R_sack_S {w : Nat → Int32} {c h : Nat} (hc : c < 4) (hh : h < 8) : R_sack w c h = up (S_sack w c h) 4 (w 4 - 1) := by
  have k12 : ¬ kx c 1 = kx c 2 := kk_ne (by decide) (by decide) (by decide)
  have k13 : ¬ kx c 1 = kx c 3 := kk_ne (by decide) (by decide) (by decide)
  have k23 : ¬ kx c 2 = kx c 3 := kk_ne (by decide) (by decide) (by decide)
  have kh : ∀ f g, g < 9 → ¬ kx c f = hx h g := fun f g hg => kh_ne hh hg
  have kl : ∀ f, ¬ kx c f = 4 := fun f => kl_ne (by decide)
  have hl : ∀ f, ¬ hx h f = 4 := fun f => hl_ne (by decide)
  have hhn : ∀ f g, f < 9 → g < 9 → ¬ f = g → ¬ hx h f = hx h g := fun f g a b n => hh_ne a b n
  unfold R_sack S_sack S_take
  dsimp only
  funext j
  simp only [up, k12, k13, k23, kl 1, kl 2, kl 3, hl 3, hl 4, hl 5, hl 6, hl 8, Ne.symm k12, Ne.symm k13, Ne.symm k23, if_true, if_false, hhn 5 3 (by decide) (by decide) (by decide), hhn 5 4 (by decide) (by decide) (by decide), hhn 5 6 (by decide) (by decide) (by decide), hhn 5 8 (by decide) (by decide) (by decide), hhn 3 5 (by decide) (by decide) (by decide), hhn 3 4 (by decide) (by decide) (by decide), hhn 3 6 (by decide) (by decide) (by decide), hhn 3 8 (by decide) (by decide) (by decide), hhn 4 3 (by decide) (by decide) (by decide), hhn 4 5 (by decide) (by decide) (by decide), hhn 4 6 (by decide) (by decide) (by decide), hhn 4 8 (by decide) (by decide) (by decide), hhn 6 3 (by decide) (by decide) (by decide), hhn 6 4 (by decide) (by decide) (by decide), hhn 6 5 (by decide) (by decide) (by decide), hhn 6 8 (by decide) (by decide) (by decide), hhn 8 3 (by decide) (by decide) (by decide), hhn 8 4 (by decide) (by decide) (by decide), hhn 8 5 (by decide) (by decide) (by decide), hhn 8 6 (by decide) (by decide) (by decide), fun f g hg => (Ne.symm (kh f g hg) : ¬ hx h g = kx c f), show ¬ hx h 3 = kx c 1 from Ne.symm (kh 1 3 (by decide)), show ¬ hx h 3 = kx c 2 from Ne.symm (kh 2 3 (by decide)), show ¬ hx h 3 = kx c 3 from Ne.symm (kh 3 3 (by decide)), show ¬ hx h 4 = kx c 1 from Ne.symm (kh 1 4 (by decide)), show ¬ hx h 4 = kx c 2 from Ne.symm (kh 2 4 (by decide)), show ¬ hx h 4 = kx c 3 from Ne.symm (kh 3 4 (by decide)), show ¬ hx h 5 = kx c 1 from Ne.symm (kh 1 5 (by decide)), show ¬ hx h 5 = kx c 2 from Ne.symm (kh 2 5 (by decide)), show ¬ hx h 5 = kx c 3 from Ne.symm (kh 3 5 (by decide)), show ¬ hx h 6 = kx c 1 from Ne.symm (kh 1 6 (by decide)), show ¬ hx h 6 = kx c 2 from Ne.symm (kh 2 6 (by decide)), show ¬ hx h 6 = kx c 3 from Ne.symm (kh 3 6 (by decide)), show ¬ hx h 8 = kx c 1 from Ne.symm (kh 1 8 (by decide)), show ¬ hx h 8 = kx c 2 from Ne.symm (kh 2 8 (by decide)), show ¬ hx h 8 = kx c 3 from Ne.symm (kh 3 8 (by decide)), show ¬ kx c 2 = hx h 3 from kh 2 3 (by decide), show ¬ 4 = kx c 1 from Ne.symm (kl 1), show ¬ 4 = kx c 2 from Ne.symm (kl 2), show ¬ 4 = kx c 3 from Ne.symm (kl 3), show ¬ 4 = hx h 3 from Ne.symm (hl 3), show ¬ 4 = hx h 4 from Ne.symm (hl 4), show ¬ 4 = hx h 5 from Ne.symm (hl 5), show ¬ 4 = hx h 6 from Ne.symm (hl 6), show ¬ 4 = hx h 8 from Ne.symm (hl 8)]
  by_cases q1 : j = 4
  · simp only [if_pos q1]
  · by_cases q2 : j = hx h 8
    · subst q2
      simp [hhn, q1]
    · by_cases q3 : j = hx h 6
      · subst q3
        simp [hhn, q1]
      · by_cases q4 : j = hx h 4
        · subst q4
          simp [hhn, q1]
        · by_cases q5 : j = hx h 3
          · subst q5
            simp [hhn, q1]
          · by_cases q6 : j = hx h 5
            · subst q6
              simp [hhn, q1]
            · simp only [if_neg q1, if_neg q2, if_neg q3, if_neg q4, if_neg q5, if_neg q6]
theorem S_sack_4 {w : Nat → Int32} {c h : Nat} (hh : h < 8) : S_sack w c h 4 = w 4 := by
  unfold S_sack S_take
  try dsimp only
  rw [up_ne (fun z => hl_ne (by decide) z.symm), up_ne (fun z => hl_ne (by decide) z.symm), up_ne (fun z => hl_ne (by decide) z.symm), up_ne (fun z => hl_ne (by decide) z.symm), up_ne (fun z => hl_ne (by decide) z.symm), up_ne (fun z => kl_ne (by decide) z.symm), up_ne (fun z => kl_ne (by decide) z.symm), up_ne (fun z => kl_ne (by decide) z.symm)]
theorem up_up {w : Nat → Int32} {k : Nat} {x y : Int32} : up (up w k x) k y = up w k y := by
  funext j
  unfold up
  split <;> rfl
theorem S_tired_cg {w v : Nat → Int32} {c h : Nat} (h1 : w (kx c 0) = v (kx c 0)) (h2 : w (hx h 0) = v (hx h 0)) : S_tired w c h = S_tired v c h := by
  unfold S_tired
  rw [h1, h2]
theorem S_sack_up {w : Nat → Int32} {c h : Nat} {x : Int32} (hh : h < 8) : S_sack (up w 4 x) c h = up (S_sack w c h) 4 x := by
  have e : S_tired (up w 4 x) c h = S_tired w c h := S_tired_cg (up_ne (kl_ne (by decide))) (up_ne (hl_ne (by decide)))
  have c1 : ∀ (v : Nat → Int32) (f : Nat) (y : Int32), up (up v 4 x) (kx c f) y = up (up v (kx c f) y) 4 x := fun v f y => up_comm (fun z => kl_ne (by decide) z.symm)
  have c2 : ∀ (v : Nat → Int32) (f : Nat) (y : Int32), up (up v 4 x) (hx h f) y = up (up v (hx h f) y) 4 x := fun v f y => up_comm (fun z => hl_ne (by decide) z.symm)
  have r1 : ∀ (v : Nat → Int32) (f : Nat), (up v 4 x) (kx c f) = v (kx c f) := fun v f => up_ne (kl_ne (by decide))
  have r2 : ∀ (v : Nat → Int32) (f : Nat), (up v 4 x) (hx h f) = v (hx h f) := fun v f => up_ne (hl_ne (by decide))
  unfold S_sack S_take
  try dsimp only
  simp only [e, c1, c2, r1, r2]
theorem i_sub1 (a b : Int32) : a - b - 1 = a - (b + 1) := by
  rw [Int32.sub_eq_add_neg (a := a - b), Int32.sub_eq_add_neg (a := a) (b := b), Int32.sub_eq_add_neg (a := a) (b := b + 1), Int32.neg_add, Int32.sub_eq_add_neg, Int32.add_assoc]
theorem R_sks_S {w : Nat → Int32} {c h : Nat} (hc : c < 4) (hh : h < 8) : ∀ i, R_sks w c h i = up (S_sks w c h i) 4 (w 4 - nI i)
  | 0 => by
    rw [R_sks, S_sks, nI_0, Int32.sub_zero]
    exact up_self.symm
  | i + 1 => by
    rw [R_sks, R_sks_S hc hh i, R_sack_S hc hh, S_sack_up hh, up_up, up_at, S_sks, nI_succ, i_sub1]
theorem S_sks_4 {w : Nat → Int32} {c h : Nat} (hh : h < 8) : ∀ i, S_sks w c h i 4 = w 4
  | 0 => rfl
  | i + 1 => by rw [S_sks, S_sack_4 hh, S_sks_4 hh i]
theorem R_sks_C {w : Nat → Int32} {c h m : Nat} (hc : c < 4) (hh : h < 8) : R_sks w c h m = S_carry_w w c h m := by
  rw [R_sks_S hc hh, S_carry_w, S_sks_4 hh]

