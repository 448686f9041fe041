/-! what a change leaves keeps its bounds: carrying, days, the face's other changes -/
theorem mn9 {a : Nat} (ha : a ≤ 9) : ∃ k, k ≤ 9 ∧ (if nI a + 1 < 9 then nI a + 1 else 9) = nI k := by
  have e : (nI (a + 1) < 9) ↔ a + 1 < 9 := nI_ltI (a := a + 1) (b := 9) (by omega) (by decide)
  rw [show nI a + 1 = nI (a + 1) from nI_add a 1]
  by_cases z : a + 1 < 9
  · exact ⟨a + 1, by omega, if_pos (e.mpr z)⟩
  · exact ⟨9, by omega, if_neg (fun y => z (e.mp y))⟩
theorem S_sack_Wb {m c h t e a d p : Nat} {w : Nat → Int32} (hc : c < 4) (hh : h < 8) (hW : Wb m w) (h1 : w (kx c 1) = nI t) (he : S_tired w c h = nI e) (hte : t + e ≤ 30) (h3 : w (hx h 3) = nI a) (ha : 1 ≤ a) (ha2 : a ≤ 20) (h4 : w (hx h 4) = nI d) (hd : d ≤ 36) (h5 : w (hx h 5) = nI p) (hp : p ≤ 32) :
    Wb m (S_sack w c h) ∧ S_sack w c h (kx c 1) = nI (t + e) ∧ S_sack w c h (hx h 3) = nI (a - 1) ∧ S_sack w c h (hx h 4) = nI (d + 3) ∧ ∃ p', p' ≤ p + 3 ∧ S_sack w c h (hx h 5) = nI p' := by
  obtain ⟨b, hb, eb⟩ := hW.k (c := c) (f := 2) hc (by decide) rfl
  have hbl : ∃ k, k ≤ 9 ∧ bl w c = nI k := by
    unfold bl
    rw [eb]
    exact mn9 hb
  obtain ⟨k, hk, ek⟩ := hbl
  have q1 : w (kx c 1) + S_tired w c h = nI (t + e) := by rw [h1, he, nI_add]
  have q3 : w (hx h 3) - 1 = nI (a - 1) := by rw [h3]; exact pk_sub (a := a) (b := 1) ha
  have q4 : w (hx h 4) + 3 = nI (d + 3) := by rw [h4]; exact nI_add d 3
  have q5 : w (hx h 5) + bl w c / 3 = nI (p + k / 3) := by
    rw [h5, ek, show (3 : Int32) = nI 3 from rfl, pk_div (by omega) (by omega) (by omega), nI_add]
  refine ⟨?_, (S_sack_k1 hh).trans q1, (S_sack_h3 hh).trans q3, (S_sack_h4 hh).trans q4, p + k / 3, by omega, (S_sack_h5 hh).trans q5⟩
  rw [S_sack_e hh, q1, q3, q4, q5, ek]
  exact (((((((hW.upk (c := c) (f := 1) (x := t + e) hc (by decide) rfl (fun B z => bsome (a := 30) z (by omega))).upk (c := c) (f := 2) (x := k) hc (by decide) rfl (fun B z => bsome (a := 9) z (by omega))).upkn (c := c) (f := 3) hc (by decide) rfl).uph (i := h) (f := 3) (x := a - 1) hh (by decide) rfl (fun B z => bsome (a := 20) z (by omega))).uph (i := h) (f := 4) (x := d + 3) hh (by decide) rfl (fun B z => bsome (a := 39) z (by omega))).uph (i := h) (f := 5) (x := p + k / 3) hh (by decide) rfl (fun B z => bsome (a := 35) z (by omega))).uphn (i := h) (f := 6) hh (by decide) rfl).uphn (i := h) (f := 8) hh (by decide) rfl
theorem S_sks_Wb {m c h t e a d p : Nat} {w : Nat → Int32} (hc : c < 4) (hh : h < 8) (hW : Wb m w) (h1 : w (kx c 1) = nI t) (he : S_tired w c h = nI e) (h3 : w (hx h 3) = nI a) (ha2 : a ≤ 20) (h4 : w (hx h 4) = nI d) (hd : d ≤ 12) (h5 : w (hx h 5) = nI p) (hp : p ≤ 8) :
    ∀ i, i ≤ 9 → i ≤ a → t + i * e ≤ 30 → Wb m (S_sks w c h i) ∧ S_sks w c h i (kx c 1) = nI (t + i * e) ∧ S_sks w c h i (hx h 3) = nI (a - i) ∧ S_sks w c h i (hx h 4) = nI (d + 3 * i) ∧ ∃ p', p' ≤ p + 3 * i ∧ S_sks w c h i (hx h 5) = nI p'
  | 0, _, _, _ => ⟨hW, by rw [Nat.zero_mul]; exact h1, h3, h4, p, Nat.le_refl _, h5⟩
  | i + 1, hi, hia, hte => by
    have es : (i + 1) * e = i * e + e := Nat.succ_mul i e
    obtain ⟨w1, w2, w3, w4, p', w5, w6⟩ := S_sks_Wb hc hh hW h1 he h3 ha2 h4 hd h5 hp i (by omega) (by omega) (by omega)
    obtain ⟨v1, v2, v3, v4, p2, v5, v6⟩ := S_sack_Wb hc hh w1 w2 ((S_sks_tired hh i).trans he) (by omega) w3 (by omega) (by omega) w4 (by omega) w6 (by omega)
    refine ⟨v1, v2.trans (by rw [es, Nat.add_assoc]), v3.trans (by rw [Nat.sub_sub]), v4.trans (by rw [show d + 3 * i + 3 = d + 3 * (i + 1) by omega]), p2, by omega, v6⟩
theorem C_carry {m nh nc pl : Nat} {w : Nat → Int32} {x n : Int32} (hW : Wb m w) (h1 : w 1 = nI nh) (hn : nh ≤ 8) (h2 : w 2 = nI nc) (hc : nc ≤ 4) (h3 : w 3 = nI pl) (hp : pl ≤ nh) : Cok m (S_carry w nc pl x n) := by
  have hWk : Wok m w := Wok.mk' hW h1 hn h2 hc h3 hp
  unfold S_carry
  split
  · exact Cok.n (by decide)
  · rename_i g1
    obtain ⟨c, hcc, rfl⟩ := ob_ex (n := nc) (by omega) (Bool.not_eq_true _ ▸ g1 : ob x 0 (nI nc - 1) = false)
    split
    · exact Cok.n (by decide)
    · rename_i g2
      obtain ⟨k, k1, k2, rfl⟩ := ob_ex2 (a := 1) (b := 9) (by decide) (by decide) (Bool.not_eq_true _ ▸ g2 : ob n (nI 1) (nI 9) = false)
      rw [nI_clamp (by omega : c < 2 ^ 31), nI_clamp (by omega : k < 2 ^ 31)]
      split
      · exact Cok.n (by decide)
      · split
        · rename_i g4
          exact fun z => absurd z g4
        · rename_i g4
          split
          · exact Cok.n (by decide)
          · rename_i g5
            intro _
            obtain ⟨c4, b4, e4⟩ := hW 4 30 rfl
            obtain ⟨a, ha, ea⟩ := hW.h (i := pl - 1) (f := 3) (by omega) (by decide) rfl
            obtain ⟨d, hd, ed⟩ := hW.h (i := pl - 1) (f := 4) (by omega) (by decide) rfl
            obtain ⟨p, hpp, ep⟩ := hW.h (i := pl - 1) (f := 5) (by omega) (by decide) rfl
            obtain ⟨t, ht, et⟩ := hW.k (c := c) (f := 1) (by omega) (by decide) rfl
            obtain ⟨_, e, he1, he2, ee⟩ := hWk.tir (c := c) (i := pl - 1) (by omega) (by omega)
            unfold S_hby at g4
            rw [e4, ea, ed, ep] at g4
            have k4 : ¬ nI c4 < nI k := fun z => g4 (by rw [if_pos z]; exact (by decide : ¬ (8 : Int32) = 0))
            rw [if_neg k4] at g4
            have ka : ¬ nI a < nI k := fun z => g4 (by rw [if_pos z]; exact (by decide : ¬ (9 : Int32) = 0))
            rw [if_neg ka] at g4
            have kd : ¬ 12 < nI d := fun z => g4 (by rw [if_pos z]; exact (by decide : ¬ (10 : Int32) = 0))
            rw [if_neg kd] at g4
            have kp : ¬ 8 < nI p := fun z => g4 (by rw [if_pos z]; exact (by decide : ¬ (11 : Int32) = 0))
            have n4 := nlt (by omega) (by omega) k4
            have na := nlt (by omega) (by omega) ka
            have nd := nlt (a := 12) (by decide) (by omega) kd
            have np := nlt (a := 8) (by decide) (by omega) kp
            have hke : k * e ≤ 9 * 12 := Nat.mul_le_mul k2 he2
            have et2 : S_carry_t w c (pl - 1) (nI k) = nI (t + k * e) := by rw [S_carry_t, et, ee, pk_mul, nI_add]
            rw [et2] at g5
            have n5 := nlt (a := 30) (by decide) (by omega) g5
            obtain ⟨v1, v2, v3, v4, p2, v5, v6⟩ := S_sks_Wb (c := c) (h := pl - 1) (by omega) (by omega) hW et ee ea ha ed (by omega) ep (by omega) k k2 na (by omega)
            have el : S_sks w c (pl - 1) k 4 - nI k = nI (c4 - k) := by rw [S_sks_4 (by omega), e4, pk_sub n4]
            refine ⟨?_, t + k * e, by omega, ?_⟩
            · show Wok m (S_carry_w w c (pl - 1) k)
              unfold S_carry_w
              rw [el]
              refine Wok.mk' (v1.upl (x := c4 - k) (by decide) rfl (fun B z => bsome (a := 30) z (by omega))) ?_ hn ?_ hc ?_ hp
              · rw [up_ne (by decide), S_sks_lo (by omega) (by decide)]
                exact h1
              · rw [up_ne (by decide), S_sks_lo (by omega) (by decide)]
                exact h2
              · rw [up_ne (by decide), S_sks_lo (by omega) (by decide)]
                exact h3
            · show S_carry_w w c (pl - 1) k (kx c 1) = _
              rw [S_carry_k1 (by omega), et2]
theorem S_hday_Wb {m i : Nat} {w : Nat → Int32} (hi : i < 8) (hW : Wb m w) : Wb m (S_hday w i) := by
  unfold S_hday
  exact (hW.uphn (i := i) (f := 6) hi (by decide) rfl).uph (i := i) (f := 7) (x := 0) hi (by decide) rfl (fun B _ => Nat.zero_le B)
theorem S_hweek_Wb {m i : Nat} {w : Nat → Int32} (hi : i < 8) (hW : Wb m w) : Wb m (S_hweek w i) := by
  obtain ⟨a, ha, ea⟩ := hW.h (i := i) (f := 3) hi (by decide) rfl
  obtain ⟨b, hb, eb⟩ := hW.h (i := i) (f := 2) hi (by decide) rfl
  obtain ⟨k, hk, ek⟩ := mn20 (a := a) (b := b) (by omega) (by omega)
  unfold S_hweek
  rw [ea, eb]
  exact hW.uph (i := i) (f := 3) (x := k) hi (by decide) ek (fun B z => bsome (a := 20) z hk)
theorem S_dayh_Wb {m : Nat} {w : Nat → Int32} {nw : Bool} (hW : Wb m w) : ∀ i, i ≤ 8 → Wb m (S_dayh w nw i)
  | 0, _ => hW
  | i + 1, hi => by
    have ih := S_dayh_Wb (nw := nw) hW i (by omega)
    unfold S_dayh
    split
    · exact S_hweek_Wb (by omega) (S_hday_Wb (by omega) ih)
    · exact S_hday_Wb (by omega) ih
theorem S_dayc_Wb {m : Nat} {w : Nat → Int32} (hW : Wb m w) : ∀ i, i ≤ 4 → Wb m (S_dayc w i)
  | 0, _ => hW
  | i + 1, hi => by
    have ih := S_dayc_Wb hW i (by omega)
    obtain ⟨a, ha, ea⟩ := ih.k (c := i) (f := 1) (by omega) (by decide) rfl
    have : ∃ k, k ≤ 30 ∧ (if 0 < nI a - 8 then nI a - 8 else 0) = nI k := by
      by_cases z : 8 ≤ a
      · rw [show nI a - 8 = nI (a - 8) from pk_sub (a := a) (b := 8) z]
        by_cases y : 0 < a - 8
        · exact ⟨a - 8, by omega, if_pos ((nI_ltI (a := 0) (b := a - 8) (by decide) (by omega)).mpr y)⟩
        · exact ⟨0, by omega, if_neg (fun q => y ((nI_ltI (a := 0) (b := a - 8) (by decide) (by omega)).mp q))⟩
      · refine ⟨0, by omega, ?_⟩
        rcases (by omega : a = 0 ∨ a = 1 ∨ a = 2 ∨ a = 3 ∨ a = 4 ∨ a = 5 ∨ a = 6 ∨ a = 7) with rfl | rfl | rfl | rfl | rfl | rfl | rfl | rfl <;> decide
    obtain ⟨k, hk, ek⟩ := this
    unfold S_dayc S_cday
    dsimp only
    rw [ea]
    exact (ih.upk (c := i) (f := 1) (x := k) (by omega) (by decide) ek (fun B z => bsome (a := 30) z hk)).upk (c := i) (f := 2) (x := 0) (by omega) (by decide) rfl (fun B _ => Nat.zero_le B)
theorem S_dys_Wb {m nh nc : Nat} {w : Nat → Int32} (hn : nh ≤ 8) (hc : nc ≤ 4) (hW : Wb m w) : ∀ i, Wb m (S_dys w nh nc i)
  | 0 => hW
  | i + 1 => by
    unfold S_dys S_day
    exact S_dayc_Wb (S_dayh_Wb ((S_dys_Wb hn hc hW i).upln (by decide) rfl) nh hn) nc hc
theorem C_days {m nh nc pl : Nat} {w : Nat → Int32} {x : Int32} (hW : Wb m w) (h1 : w 1 = nI nh) (hn : nh ≤ 8) (h2 : w 2 = nI nc) (hc : nc ≤ 4) (h3 : w 3 = nI pl) (hp : pl ≤ nh) : Cok m (S_days w nh nc x) := by
  unfold S_days
  split
  · exact Cok.n (by decide)
  · intro _
    have hv := S_dys_Wb hn hc hW x.toNatClampNeg
    have sum : ∀ j, j ≤ 8 → ∃ k, k ≤ 20 * j ∧ S_sum (S_dys w nh nc x.toNatClampNeg) j 3 = nI k := fun j => by
      induction j with
      | zero => exact fun _ => ⟨0, Nat.le_refl _, rfl⟩
      | succ j ih =>
        intro hj
        obtain ⟨k, hk, ek⟩ := ih (by omega)
        obtain ⟨a, ha, ea⟩ := hv.h (i := j) (f := 3) (by omega) (by decide) rfl
        refine ⟨k + a, by omega, ?_⟩
        unfold S_sum at ek ⊢
        rw [sm, ek, show S_hnum (S_dys w nh nc x.toNatClampNeg) j 3 = nI a from ea, nI_add]
    obtain ⟨k, hk, ek⟩ := sum nh hn
    exact ⟨Wok.mk' hv ((S_dys_lo (by decide) (by decide) _).trans h1) hn ((S_dys_lo (by decide) (by decide) _).trans h2) hc ((S_dys_lo (by decide) (by decide) _).trans h3) hp, k, by omega, ek⟩
theorem C_house {m nh nc pl : Nat} {w : Nat → Int32} {f d : Int32} (hW : Wb m w) (h1 : w 1 = nI nh) (hn : nh ≤ 8) (h2 : w 2 = nI nc) (hc : nc ≤ 4) (h3 : w 3 = nI pl) (hp : pl ≤ nh) : Cok m (S_house w nh f d) := by
  unfold S_house
  split
  · exact Cok.n (by decide)
  · rename_i g1
    split
    · exact Cok.n (by decide)
    · rename_i g2
      split
      · exact Cok.n (by decide)
      · rename_i g3
        intro _
        obtain ⟨j, _, hj, rfl⟩ := ob_ex2 (a := 0) (b := 9) (by decide) (by decide) (Bool.not_eq_true _ ▸ g1 : ob f (nI 0) (nI 9) = false)
        obtain ⟨k, _, hk, rfl⟩ := ob_ex2 (a := 0) (b := 2) (by decide) (by decide) (Bool.not_eq_true _ ▸ g2 : ob d (nI 0) (nI 2) = false)
        refine ⟨?_, nh, by omega, rfl⟩
        show Wok m (S_house_w w nh (nI j) (nI k))
        have ev : S_house_w w nh (nI j) (nI k) = up (up (up w (hx nh 0) (nI j)) (hx nh 1) (nI k)) 1 (nI (nh + 1)) := by
          unfold S_house_w
          dsimp only
          rw [up_lo (by decide), up_lo (by decide), h1, nI_succ]
        rw [ev]
        refine Wok.mk' (nh := nh + 1) (((hW.uph (i := nh) (f := 0) (x := j) (by omega) (by decide) rfl (fun B z => bsome (a := 9) z hj)).uph (i := nh) (f := 1) (x := k) (by omega) (by decide) rfl (fun B z => bsome (a := 2) z hk)).upl (x := nh + 1) (by decide) rfl (fun B z => bsome (a := 8) z (by omega))) up_at (by omega) ?_ hc ?_ (by omega : pl ≤ nh + 1)
        · rw [up_ne (by decide), up_lo (by decide), up_lo (by decide)]
          exact h2
        · rw [up_ne (by decide), up_lo (by decide), up_lo (by decide)]
          exact h3
theorem C_carrier {m nh nc pl : Nat} {w : Nat → Int32} {x : Int32} (hW : Wb m w) (h1 : w 1 = nI nh) (hn : nh ≤ 8) (h2 : w 2 = nI nc) (hc : nc ≤ 4) (h3 : w 3 = nI pl) (hp : pl ≤ nh) : Cok m (S_carrier w nc x) := by
  unfold S_carrier
  split
  · exact Cok.n (by decide)
  · rename_i g1
    split
    · exact Cok.n (by decide)
    · rename_i g3
      intro _
      obtain ⟨j, _, hj, rfl⟩ := ob_ex2 (a := 1) (b := 9) (by decide) (by decide) (Bool.not_eq_true _ ▸ g1 : ob x (nI 1) (nI 9) = false)
      refine ⟨?_, nc, by omega, rfl⟩
      show Wok m (S_carrier_w w nc (nI j))
      have ev : S_carrier_w w nc (nI j) = up (up w (kx nc 0) (nI j)) 2 (nI (nc + 1)) := by
        unfold S_carrier_w
        dsimp only
        rw [up_lk (by decide), h2, nI_succ]
      rw [ev]
      refine Wok.mk' (nc := nc + 1) ((hW.upk (c := nc) (f := 0) (x := j) (by omega) (by decide) rfl (fun B z => bsome (a := 9) z hj)).upl (x := nc + 1) (by decide) rfl (fun B z => bsome (a := 4) z (by omega))) ?_ hn up_at (by omega) ?_ hp
      · rw [up_ne (by decide), up_lk (by decide)]
        exact h1
      · rw [up_ne (by decide), up_lk (by decide)]
        exact h3
theorem C_order {m nh nc pl : Nat} {w : Nat → Int32} {x n : Int32} (hW : Wb m w) (h1 : w 1 = nI nh) (hn : nh ≤ 8) (h2 : w 2 = nI nc) (hc : nc ≤ 4) (h3 : w 3 = nI pl) (hp : pl ≤ nh) : Cok m (S_order w nh x n) := by
  unfold S_order
  split
  · exact Cok.n (by decide)
  · rename_i g1
    obtain ⟨i, hi, rfl⟩ := ob_ex (n := nh) (by omega) (Bool.not_eq_true _ ▸ g1 : ob x 0 (nI nh - 1) = false)
    rw [nI_clamp (by omega : i < 2 ^ 31)]
    split
    · exact Cok.n (by decide)
    · rename_i g3
      intro _
      obtain ⟨j, _, hj, rfl⟩ := ob_ex2 (a := 0) (b := 4) (by decide) (by decide) (Bool.not_eq_true _ ▸ g3 : ob n (nI 0) (nI 4) = false)
      obtain ⟨a, ha, ea⟩ := hW.h (i := i) (f := 2) (by omega) (by decide) rfl
      refine ⟨?_, a, by omega, ea⟩
      show Wok m (up w (hx i 2) (nI j))
      refine Wok.mk' (hW.uph (i := i) (f := 2) (x := j) (by omega) (by decide) rfl (fun B z => bsome (a := 4) z hj)) ?_ hn ?_ hc ?_ hp
      · rw [up_lo (by decide)]
        exact h1
      · rw [up_lo (by decide)]
        exact h2
      · rw [up_lo (by decide)]
        exact h3
theorem C_cmd {m nh nc pl q : Nat} {w : Nat → Int32} {x n : Int32} (hm : m ≤ 1000) (hW : Wb m w) (h1 : w 1 = nI nh) (hn : nh ≤ 8) (h2 : w 2 = nI nc) (hc : nc ≤ 4) (h3 : w 3 = nI pl) (hp : pl ≤ nh) : Cok m (S_cmd w nh nc pl q x n) := by
  rcases q with _ | _ | _ | _ | _ | _ | _ | q
  · exact C_drive hW h1 hn h2 hc h3 hp
  · exact C_load hW h1 hn h2 hc h3 hp
  · exact C_carry hW h1 hn h2 hc h3 hp
  · exact C_bone hm hW h1 hn h2 hc h3 hp
  · exact C_mop hW h1 hn h2 hc h3 hp
  · exact C_pay hW h1 hn h2 hc h3 hp
  · exact C_shoe hW h1 hn h2 hc h3 hp
  · exact C_days hW h1 hn h2 hc h3 hp

