/-! what a change leaves adds up again -/
theorem DL.m {w w' : Nat → Int32} {p q p' q' m : Nat} (h6 : w 6 = nI q) (h7 : w 7 = nI p) (e6 : w' 6 = nI q') (e7 : w' 7 = nI p') (hm : q + p' = p + q' + m) : DL w w' (nI m) := by
  unfold DL
  rw [h6, h7, e6, e7, nI_add, pk_sub (by omega), pk_sub (by omega), show q + p' - p - q' = m by omega]
/-- where a change goes through: the sums hold again; V: what was spent -/
def GD (V : (Nat → Int32) → Int32) (nh nc : Nat) (w : Nat → Int32) (S : ST) : Prop := S.1.1 = 0 → ∃ nh' nc', nh ≤ nh' ∧ nh' ≤ 8 ∧ nc ≤ nc' ∧ nc' ≤ 4 ∧ S.2.2 1 = nI nh' ∧ S.2.2 2 = nI nc' ∧ Jn nh' nc' 0 S.2.2 ∧ DL w S.2.2 (V S.2.2)
theorem GD.n {V : (Nat → Int32) → Int32} {nh nc : Nat} {w u : Nat → Int32} {a b c : Int32} (h : ¬ a = 0) : GD V nh nc w ((a, b), c, u) := fun z => absurd z h
theorem GD.s {V : (Nat → Int32) → Int32} {nh nc : Nat} {w u : Nat → Int32} {c : Int32} (h1 : w 1 = nI nh) (hn : nh ≤ 8) (h2 : w 2 = nI nc) (hc : nc ≤ 4) (e1 : u 1 = w 1) (e2 : u 2 = w 2) (hJ : Jn nh nc 0 u) (hD : DL w u (V u)) : GD V nh nc w ((0, 0), c, u) := fun _ => ⟨nh, nc, Nat.le_refl _, hn, Nat.le_refl _, hc, e1.trans h1, e2.trans h2, hJ, hD⟩
theorem G_load {nh nc : Nat} {w : Nat → Int32} {n : Int32} (hJ : Jn nh nc 0 w) (h1 : w 1 = nI nh) (hn : nh ≤ 8) (h2 : w 2 = nI nc) (hc : nc ≤ 4) : GD (fun _ => 0) nh nc w (S_load w n) := by
  unfold S_load
  split
  · exact GD.n (by decide)
  · rename_i g1
    obtain ⟨k, k1, k2, rfl⟩ := ob_ex2 (a := 1) (b := 30) (by decide) (by decide) (Bool.not_eq_true _ ▸ g1 : ob n (nI 1) (nI 30) = false)
    split
    · exact GD.n (by decide)
    · split
      · exact GD.n (by decide)
      · rename_i g3
        split
        · exact GD.n (by decide)
        · have hJ' := hJ
          obtain ⟨a, e, z, k9, x, y, p, q, c, j⟩ := hJ'
          have e5 := j.2.2.1.2.1
          have ey := j.2.2.2.2.2.1
          rw [e5] at g3
          have q3 := nlt (by omega) (by omega) g3
          refine GD.s h1 hn h2 hc ?_ ?_ ⟨_, _, _, _, _, _, _, _, _, j.load q3⟩ (DL.n hJ ?_ ?_)
          all_goals (unfold S_load_w; (try dsimp only); rw [up_ne (by decide), up_ne (by decide)])
theorem G_drive {nh nc : Nat} {w : Nat → Int32} {x : Int32} (hJ : Jn nh nc 0 w) (h1 : w 1 = nI nh) (hn : nh ≤ 8) (h2 : w 2 = nI nc) (hc : nc ≤ 4) : GD (fun _ => 0) nh nc w (S_drive w nh x) := by
  unfold S_drive
  split
  · exact GD.n (by decide)
  · split
    · exact GD.n (by decide)
    · split
      · exact GD.n (by decide)
      · have lo : ∀ j, j < 9 → ¬ j = 3 → S_drive_w w x j = w j := fun j hj h3 => by
          unfold S_drive_w S_up
          rw [up_ne h3, up_ne (by omega), S_upw_lo (by omega)]
        refine GD.s h1 hn h2 hc (lo 1 (by decide) (by decide)) (lo 2 (by decide) (by decide)) ?_ (DL.n hJ (lo 6 (by decide) (by decide)) (lo 7 (by decide) (by decide)))
        unfold S_drive_w S_up
        exact ((hJ.upw 4 (by decide)).u (Ir.l (by decide) (by decide) (by decide) (by decide) (by decide))).u (Ir.l (by decide) (by decide) (by decide) (by decide) (by decide))
theorem G_shoe {nh nc : Nat} {w : Nat → Int32} {x : Int32} (hJ : Jn nh nc 0 w) (h1 : w 1 = nI nh) (hn : nh ≤ 8) (h2 : w 2 = nI nc) (hc : nc ≤ 4) : GD (fun _ => 4) nh nc w (S_shoe w x) := by
  unfold S_shoe
  split
  · exact GD.n (by decide)
  · rename_i g1
    obtain ⟨j, hj, rfl⟩ := ob_ex (n := 4) (by omega) (Bool.not_eq_true _ ▸ g1 : ob x 0 (nI 4 - 1) = false)
    rw [nI_clamp (by omega : j < 2 ^ 31)]
    split
    · exact GD.n (by decide)
    · split
      · exact GD.n (by decide)
      · split
        · exact GD.n (by decide)
        · rename_i g4
          obtain ⟨a, e, z, k9, x9, y, p, q, c, jj⟩ := hJ
          obtain ⟨-, -, ⟨-, -, e7, e6, hq⟩, -, -, hs, hp⟩ := id jj
          rw [e6] at g4
          have q4 := nlt (a := q) (b := 4) (by omega) (by decide) g4
          have c6 : S_shoe_w w j 6 = nI (q - 4) := by
            unfold S_shoe_w
            rw [up_ne (by omega), up_at, e6]
            exact pk_sub (a := q) (b := 4) q4
          have lo : ∀ i, i < 10 → ¬ i = 6 → S_shoe_w w j i = w i := fun i hi h6 => by
            unfold S_shoe_w
            rw [up_ne (by omega), up_ne h6]
          refine GD.s h1 hn h2 hc (lo 1 (by decide) (by decide)) (lo 2 (by decide) (by decide)) ⟨_, _, _, _, _, _, _, _, _, (jj.coins (n := 4) q4).u (Ir.l (j := 10 + j) (by omega) (by omega) (by omega) (by omega) (by omega))⟩ (DL.m (m := 4) e6 e7 c6 ((lo 7 (by decide) (by decide)).trans e7) (by omega))
theorem G_bone {nh nc pl : Nat} {w : Nat → Int32} (hJ : Jn nh nc 0 w) (h1 : w 1 = nI nh) (hn : nh ≤ 8) (h2 : w 2 = nI nc) (hc : nc ≤ 4) (hp : pl ≤ nh) : GD (fun _ => 0) nh nc w (S_bone w pl) := by
  unfold S_bone
  split
  · exact GD.n (by decide)
  · split
    · exact GD.n (by decide)
    · split
      · exact GD.n (by decide)
      · have lo : ∀ i, i < 14 → ¬ i = 8 → S_bone_w w (pl - 1) i = w i := fun i hi h8 => by
          unfold S_bone_w
          try dsimp only
          rw [up_ne h8, up_lo hi]
        refine GD.s h1 hn h2 hc (lo 1 (by decide) (by decide)) (lo 2 (by decide) (by decide)) ?_ (DL.n hJ (lo 6 (by decide) (by decide)) (lo 7 (by decide) (by decide)))
        exact (hJ.u (Ir.h (by omega) (by decide) (by decide) (by decide) (by decide))).u (Ir.l (by decide) (by decide) (by decide) (by decide) (by decide))
theorem G_bones {nh nc m : Nat} {w : Nat → Int32} {n : Int32} (hW : Wb m w) (hm : m ≤ 1000) (hJ : Jn nh nc 0 w) (h1 : w 1 = nI nh) (hn : nh ≤ 8) (h2 : w 2 = nI nc) (hc : nc ≤ 4) : GD (fun w' => w' 8 - w 8) nh nc w (S_bones w n) := by
  unfold S_bones
  split
  · exact GD.n (by decide)
  · rename_i g1
    obtain ⟨k, k1, k2, rfl⟩ := ob_ex2 (a := 1) (b := 9) (by decide) (by decide) (Bool.not_eq_true _ ▸ g1 : ob n (nI 1) (nI 9) = false)
    split
    · exact GD.n (by decide)
    · rename_i g2
      obtain ⟨a, e, z, k9, x9, y, p, q, c, jj⟩ := hJ
      obtain ⟨-, -, ⟨-, -, e7, e6, hq⟩, -, -, hs, hp⟩ := id jj
      obtain ⟨b, hb, e8⟩ := hW 8 (3 + 9 * m) rfl
      rw [e6] at g2
      have q4 := nlt (a := q) (b := k) (by omega) (by omega) g2
      have lo : ∀ i, ¬ i = 8 → ¬ i = 6 → S_bones_w w (nI k) i = w i := fun i h8 h6 => by
        unfold S_bones_w
        try dsimp only
        rw [up_ne h8, up_ne h6]
      have c6 : S_bones_w w (nI k) 6 = nI (q - k) := by
        unfold S_bones_w
        try dsimp only
        rw [up_ne (by decide), up_at, e6, pk_sub q4]
      have c8 : S_bones_w w (nI k) 8 - w 8 = nI k := by
        unfold S_bones_w
        try dsimp only
        rw [up_at, up_ne (by decide), e8, nI_add, pk_sub (Nat.le_add_right b k), Nat.add_sub_cancel_left]
      refine GD.s h1 hn h2 hc (lo 1 (by decide) (by decide)) (lo 2 (by decide) (by decide)) ⟨_, _, _, _, _, _, _, _, _, (jj.coins (n := k) q4).u (Ir.l (j := 8) (by decide) (by decide) (by decide) (by decide) (by decide))⟩ ?_
      show DL w (S_bones_w w (nI k)) (S_bones_w w (nI k) 8 - w 8)
      rw [c8]
      exact DL.m (m := k) e6 e7 c6 ((lo 7 (by decide) (by decide)).trans e7) (by omega)
theorem G_mop {nh nc pl : Nat} {w : Nat → Int32} {x : Int32} (hJ : Jn nh nc 0 w) (h1 : w 1 = nI nh) (hn : nh ≤ 8) (h2 : w 2 = nI nc) (hc : nc ≤ 4) (hp : pl ≤ nh) : GD (fun _ => 0) nh nc w (S_mop w nc pl x) := by
  unfold S_mop
  split
  · exact GD.n (by decide)
  · split
    · exact GD.n (by decide)
    · split
      · exact GD.n (by decide)
      · split
        · exact GD.n (by decide)
        · have lo : ∀ i, i < 14 → S_mop_w w x.toNatClampNeg (pl - 1) i = w i := fun i hi => by
            unfold S_mop_w
            rw [up_lo hi, up_lk hi]
          refine GD.s h1 hn h2 hc (lo 1 (by decide)) (lo 2 (by decide)) ?_ (DL.n hJ (lo 6 (by decide)) (lo 7 (by decide)))
          exact (hJ.u (Ir.k (by decide) (by decide))).u (Ir.h (by omega) (by decide) (by decide) (by decide) (by decide))
theorem G_pay {nh nc : Nat} {w : Nat → Int32} {x n : Int32} (hJ : Jn nh nc 0 w) (h1 : w 1 = nI nh) (hn : nh ≤ 8) (h2 : w 2 = nI nc) (hc : nc ≤ 4) : GD (fun _ => 0) nh nc w (S_pay w nh x n) := by
  unfold S_pay
  split
  · exact GD.n (by decide)
  · rename_i g1
    obtain ⟨i, hi, rfl⟩ := ob_ex (n := nh) (by omega) (Bool.not_eq_true _ ▸ g1 : ob x 0 (nI nh - 1) = false)
    rw [nI_clamp (by omega : i < 2 ^ 31)]
    split
    · exact GD.n (by decide)
    · rename_i g2
      obtain ⟨k, k1, k2, rfl⟩ := ob_ex2 (a := 1) (b := 99) (by decide) (by decide) (Bool.not_eq_true _ ▸ g2 : ob n (nI 1) (nI 99) = false)
      split
      · exact GD.n (by decide)
      · rename_i g3
        obtain ⟨a, e, z, k9, x9, y, p, q, c, jj⟩ := hJ
        obtain ⟨j1, -, ⟨-, -, e7, e6, hq⟩, -, -, hs, hp⟩ := id jj
        have h4 := (j1 i (by omega)).1
        have hl := ns_le (f := a) (i := i) 8 (by omega)
        rw [h4] at g3
        have q3 := nlt (by omega) (by omega) g3
        have jp := jj.pay (n := k) (h := i) (by omega) q3
        have lo : ∀ j, j < 14 → ¬ j = 6 → ¬ j = 7 → S_pay_w w i (nI k) j = w j := fun j hj h6 h7 => by
          unfold S_pay_w
          try dsimp only
          rw [up_ne h7, up_ne h6, up_lo hj]
        exact GD.s h1 hn h2 hc (lo 1 (by decide) (by decide) (by decide)) (lo 2 (by decide) (by decide) (by decide)) ⟨_, _, _, _, _, _, _, _, _, jp⟩ (nI_0 ▸ DL.m (m := 0) e6 e7 jp.2.2.1.2.2.2.1 jp.2.2.1.2.2.1 (by omega))
theorem G_days {nh nc : Nat} {w : Nat → Int32} {x : Int32} (hJ : Jn nh nc 0 w) (h1 : w 1 = nI nh) (hn : nh ≤ 8) (h2 : w 2 = nI nc) (hc : nc ≤ 4) : GD (fun _ => 0) nh nc w (S_days w nh nc x) := by
  unfold S_days
  split
  · exact GD.n (by decide)
  · exact GD.s h1 hn h2 hc (S_dys_lo (by decide) (by decide) _) (S_dys_lo (by decide) (by decide) _) (hJ.dys hn _) (DL.n hJ (S_dys_lo (by decide) (by decide) _) (S_dys_lo (by decide) (by decide) _))
theorem G_order {nh nc : Nat} {w : Nat → Int32} {x n : Int32} (hJ : Jn nh nc 0 w) (h1 : w 1 = nI nh) (hn : nh ≤ 8) (h2 : w 2 = nI nc) (hc : nc ≤ 4) : GD (fun _ => 0) nh nc w (S_order w nh x n) := by
  unfold S_order
  split
  · exact GD.n (by decide)
  · rename_i g1
    obtain ⟨i, hi, rfl⟩ := ob_ex (n := nh) (by omega) (Bool.not_eq_true _ ▸ g1 : ob x 0 (nI nh - 1) = false)
    rw [nI_clamp (by omega : i < 2 ^ 31)]
    split
    · exact GD.n (by decide)
    · exact GD.s h1 hn h2 hc (up_lo (by decide)) (up_lo (by decide)) (hJ.u (Ir.h (by omega) (by decide) (by decide) (by decide) (by decide))) (DL.n hJ (up_lo (by decide)) (up_lo (by decide)))
theorem G_house {nh nc : Nat} {w : Nat → Int32} {f d : Int32} (hJ : Jn nh nc 0 w) (h1 : w 1 = nI nh) (hn : nh ≤ 8) (h2 : w 2 = nI nc) (hc : nc ≤ 4) : GD (fun _ => 0) nh nc w (S_house w nh f d) := by
  unfold S_house
  split
  · exact GD.n (by decide)
  · split
    · exact GD.n (by decide)
    · split
      · exact GD.n (by decide)
      · rename_i g3
        have lo : ∀ j, j < 14 → ¬ j = 1 → S_house_w w nh f d j = w j := fun j hj h9 => by
          unfold S_house_w
          try dsimp only
          rw [up_ne h9, up_lo hj, up_lo hj]
        have e1 : S_house_w w nh f d 1 = nI (nh + 1) := by
          unfold S_house_w
          try dsimp only
          rw [up_at, up_lo (by decide), up_lo (by decide), h1]
          exact nI_1 nh
        refine fun _ => ⟨nh + 1, nc, by omega, by omega, Nat.le_refl _, hc, e1, (lo 2 (by decide) (by decide)).trans h2, ?_, DL.n hJ (lo 6 (by decide) (by decide)) (lo 7 (by decide) (by decide))⟩
        exact (((hJ.mono (Nat.le_succ nh) (Nat.le_refl nc)).u (Ir.h (by omega) (by decide) (by decide) (by decide) (by decide))).u (Ir.h (by omega) (by decide) (by decide) (by decide) (by decide))).u (Ir.l (by decide) (by decide) (by decide) (by decide) (by decide))
theorem G_carrier {nh nc : Nat} {w : Nat → Int32} {x : Int32} (hJ : Jn nh nc 0 w) (h1 : w 1 = nI nh) (hn : nh ≤ 8) (h2 : w 2 = nI nc) (hc : nc ≤ 4) : GD (fun _ => 0) nh nc w (S_carrier w nc x) := by
  unfold S_carrier
  split
  · exact GD.n (by decide)
  · split
    · exact GD.n (by decide)
    · rename_i g3
      have lo : ∀ j, j < 14 → ¬ j = 2 → S_carrier_w w nc x j = w j := fun j hj h9 => by
        unfold S_carrier_w
        try dsimp only
        rw [up_ne h9, up_lk hj]
      have e2 : S_carrier_w w nc x 2 = nI (nc + 1) := by
        unfold S_carrier_w
        try dsimp only
        rw [up_at, up_lk (by decide), h2]
        exact nI_1 nc
      refine fun _ => ⟨nh, nc + 1, Nat.le_refl _, hn, by omega, by omega, (lo 1 (by decide) (by decide)).trans h1, e2, ?_, DL.n hJ (lo 6 (by decide) (by decide)) (lo 7 (by decide) (by decide))⟩
      exact ((hJ.mono (Nat.le_refl nh) (Nat.le_succ nc)).u (Ir.k (by decide) (by decide))).u (Ir.l (by decide) (by decide) (by decide) (by decide) (by decide))
theorem G_carry {nh nc pl : Nat} {w : Nat → Int32} {x n : Int32} (hJ : Jn nh nc 0 w) (h1 : w 1 = nI nh) (hn : nh ≤ 8) (h2 : w 2 = nI nc) (hc : nc ≤ 4) (hp : pl ≤ nh) : GD (fun _ => 0) nh nc w (S_carry w nc pl x n) := by
  unfold S_carry
  split
  · exact GD.n (by decide)
  · rename_i g1
    obtain ⟨b, hb, rfl⟩ := ob_ex (n := nc) (by omega) (Bool.not_eq_true _ ▸ g1 : ob x 0 (nI nc - 1) = false)
    split
    · exact GD.n (by decide)
    · rename_i g2
      obtain ⟨k, k1, k2, rfl⟩ := ob_ex2 (a := 1) (b := 9) (by decide) (by decide) (Bool.not_eq_true _ ▸ g2 : ob n (nI 1) (nI 9) = false)
      rw [nI_clamp (by omega : b < 2 ^ 31), nI_clamp (by omega : k < 2 ^ 31)]
      split
      · exact GD.n (by decide)
      · split
        · rename_i g4
          exact fun z => absurd z g4
        · rename_i g4
          split
          · exact GD.n (by decide)
          · have h8 : pl - 1 < 8 := by omega
            have hs : ∃ x9, w 4 = nI x9 ∧ x9 < 1000 := by
              obtain ⟨a, e, z, k9, x9, y, p, q, c, jj⟩ := hJ
              exact ⟨x9, jj.2.2.1.1, by have := jj.2.2.2.2.2.1; omega⟩
            obtain ⟨x0, e0, hx0⟩ := hs
            have k4 : ¬ nI x0 < nI k := fun z => g4 (by unfold S_hby; rw [e0, if_pos z]; exact (by decide : ¬ (8 : Int32) = 0))
            have q4 := nlt (by omega) (by omega) k4
            obtain ⟨a, e, z, k9, x9, y, p, q, c, jj⟩ := hJ.sks (h := pl - 1) (b := b) (by omega) hb hn hc k
            have e4 : S_sks w b (pl - 1) k 4 = w 4 := S_sks_4 h8 k
            have ex : x9 = x0 := (nI_eq (by have := jj.2.2.2.2.2.1; omega) (by omega)).mp (jj.2.2.1.1.symm.trans (e4.trans e0))
            have lo : ∀ j, j < 14 → ¬ j = 4 → S_carry_w w b (pl - 1) k j = w j := fun j hj h9 => by
              unfold S_carry_w
              rw [up_ne h9, S_sks_lo h8 hj]
            exact GD.s h1 hn h2 hc (lo 1 (by decide) (by decide)) (lo 2 (by decide) (by decide)) ⟨_, _, _, _, _, _, _, _, _, jj.cart (by omega)⟩ (DL.n hJ (lo 6 (by decide) (by decide)) (lo 7 (by decide) (by decide)))
