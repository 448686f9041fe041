/-! what a change leaves keeps its bounds -/
/-- where a change goes through: its bounds hold again, its answer is no -1 -/
def Cok (m : Nat) (S : ST) : Prop := S.1.1 = 0 → Wok m S.2.2 ∧ ∃ k, k < 100000 ∧ S.2.1 = nI k
theorem Cok.hne {m : Nat} {S : ST} (h : Cok m S) (z : S.1.1 = 0) : ¬ S.2.1 = -1 := by
  obtain ⟨_, k, hk, e⟩ := h z
  rw [e]
  intro q
  have e0 : ¬ nI k < 0 := by
    rw [show (0 : Int32) = nI 0 from rfl, nI_ltI (by omega) (by omega)]
    omega
  rw [q] at e0
  exact e0 (by decide)
theorem Cok.n {m : Nat} {a b c : Int32} {u : Nat → Int32} (h : ¬ a = 0) : Cok m ((a, b), c, u) := fun z => absurd z h
theorem Wok.mk' {m nh nc pl : Nat} {w : Nat → Int32} (h : Wb m w) (h1 : w 1 = nI nh) (hn : nh ≤ 8) (h2 : w 2 = nI nc) (hc : nc ≤ 4) (h3 : w 3 = nI pl) (hp : pl ≤ nh) : Wok m w := ⟨h, nh, nc, pl, h1, hn, h2, hc, h3, hp⟩
theorem bsome {a b x : Nat} (e : some a = some b) (h : x ≤ a) : x ≤ b := by
  cases e
  exact h
theorem nlt {a b : Nat} (ha : a < 2147483648) (hb : b < 2147483648) (h : ¬ nI a < nI b) : b ≤ a := by
  rw [nI_ltI ha hb] at h
  omega
theorem up_lo {w : Nat → Int32} {i f j : Nat} {x : Int32} (hj : j < 14) : up w (hx i f) x j = w j := up_ne (fun z => hl_ne hj z.symm)
theorem up_lk {w : Nat → Int32} {i f j : Nat} {x : Int32} (hj : j < 14) : up w (kx i f) x j = w j := up_ne (fun z => kl_ne hj z.symm)
theorem C_load {m nh nc pl : Nat} {w : Nat → Int32} {n : Int32} (hW : Wb m w) (h1 : w 1 = nI nh) (hn : nh ≤ 8) (h2 : w 2 = nI nc) (hc : nc ≤ 4) (h3 : w 3 = nI pl) (hp : pl ≤ nh) : Cok m (S_load w n) := by
  obtain ⟨c, b4, e4⟩ := hW 4 30 rfl
  unfold S_load
  split
  · exact Cok.n (by decide)
  · rename_i g1
    obtain ⟨k, k1, k2, rfl⟩ := ob_ex2 (a := 1) (b := 30) (by decide) (by decide) (Bool.not_eq_true _ ▸ g1 : ob n (nI 1) (nI 30) = false)
    split
    · exact Cok.n (by decide)
    · split
      · exact Cok.n (by decide)
      · split
        · exact Cok.n (by decide)
        · rename_i g4
          intro _
          rw [e4, nI_add] at g4
          have q4 := nlt (a := 30) (by decide) (by omega) g4
          have ev : S_load_w w (nI k) = up (up w 5 (w 5 - nI k)) 4 (nI (c + k)) := by
            unfold S_load_w
            dsimp only
            rw [up_ne (by decide), e4, nI_add]
          refine ⟨?_, c + k, by omega, ?_⟩
          · show Wok m (S_load_w w (nI k))
            rw [ev]
            exact Wok.mk' ((hW.upln (by decide) rfl).upl (by decide) rfl (fun B e => bsome e (by omega))) h1 hn h2 hc h3 hp
          · show S_load_w w (nI k) 4 = _
            rw [ev, up_at]
theorem S_shoes_v (w : Nat → Int32) : ∃ k, k ≤ 4 ∧ S_shoes w = nI k := by
  have one : ∀ j, ∃ b, b ≤ 1 ∧ S_worn w j = nI b := fun j => by
    unfold S_worn
    split
    · exact ⟨0, by decide, rfl⟩
    · exact ⟨1, by decide, rfl⟩
  obtain ⟨a, ha, ea⟩ := one 0
  obtain ⟨b, hb, eb⟩ := one 1
  obtain ⟨c, hc, ec⟩ := one 2
  obtain ⟨d, hd, ed⟩ := one 3
  refine ⟨0 + a + b + c + d, by omega, ?_⟩
  unfold S_shoes
  rw [sm, sm, sm, sm, sm, ea, eb, ec, ed, show (0 : Int32) = nI 0 from rfl, nI_add, nI_add, nI_add, nI_add]
theorem mn20 {a b : Nat} (ha : a ≤ 1000) (hb : b ≤ 1000) : ∃ k, k ≤ 20 ∧ (if nI a + nI b < 20 then nI a + nI b else 20) = nI k := by
  have e : (nI (a + b) < 20) ↔ a + b < 20 := nI_ltI (a := a + b) (b := 20) (by omega) (by decide)
  rw [nI_add]
  by_cases z : a + b < 20
  · exact ⟨a + b, by omega, if_pos (e.mpr z)⟩
  · exact ⟨20, by omega, if_neg (fun y => z (e.mp y))⟩
theorem S_upw_Wb {m p : Nat} {w : Nat → Int32} (hW : Wb m w) (hp : p ≤ 1000) : ∀ i, i ≤ 4 → Wb m (S_upw w (nI p) i)
  | 0, _ => hW
  | i + 1, hi => by
    have ih := S_upw_Wb hW hp i (by omega)
    have hb : lbd m (10 + i) = some 20 := by
      rcases (by omega : i = 0 ∨ i = 1 ∨ i = 2 ∨ i = 3) with rfl | rfl | rfl | rfl <;> rfl
    obtain ⟨a, ha, ea⟩ := ih (10 + i) 20 ((bd_l (by omega)).trans hb)
    obtain ⟨k, hk, ek⟩ := mn20 (a := a) (b := p) (by omega) hp
    rw [S_upw, ea]
    exact ih.upl (by omega) ek (fun B e => bsome (hb.symm.trans e) hk)
theorem C_drive {m nh nc pl : Nat} {w : Nat → Int32} {x : Int32} (hW : Wb m w) (h1 : w 1 = nI nh) (hn : nh ≤ 8) (h2 : w 2 = nI nc) (hc : nc ≤ 4) (h3 : w 3 = nI pl) (hp : pl ≤ nh) : Cok m (S_drive w nh x) := by
  unfold S_drive
  split
  · exact Cok.n (by decide)
  · rename_i g1
    obtain ⟨k, k2, rfl⟩ := ob_ex (n := nh + 1) (by omega) (show ob x 0 (nI (nh + 1) - 1) = false by
      rw [show nI (nh + 1) - 1 = nI (nh + 1 - 1) from pk_sub (a := nh + 1) (b := 1) (by omega), Nat.add_sub_cancel]
      exact Bool.not_eq_true _ ▸ g1)
    split
    · exact Cok.n (by decide)
    · split
      · exact Cok.n (by decide)
      · intro _
        obtain ⟨v, hv, ev⟩ := S_shoes_v (S_drive_w w (nI k))
        refine ⟨?_, v, by omega, ev⟩
        have : ∃ p, p ≤ 8 ∧ (if 0 < nI k - w 3 then nI k - w 3 else 0) = nI p := by
          rw [h3]
          by_cases z : pl ≤ k
          · rw [pk_sub z]
            split
            · exact ⟨k - pl, by omega, rfl⟩
            · exact ⟨0, by decide, rfl⟩
          · rw [if_neg]
            · exact ⟨0, by decide, rfl⟩
            · rw [show nI k - nI pl = -nI (pl - k) by rw [← pk_sub (a := pl) (b := k) (by omega), Int32.neg_sub]]
              rcases (by omega : pl - k = 1 ∨ pl - k = 2 ∨ pl - k = 3 ∨ pl - k = 4 ∨ pl - k = 5 ∨ pl - k = 6 ∨ pl - k = 7 ∨ pl - k = 8) with e | e | e | e | e | e | e | e <;> rw [e] <;> decide
        obtain ⟨p, hp8, ep⟩ := this
        have ew : S_drive_w w (nI k) = up (up (S_upw w (nI p) 4) 9 (S_upw w (nI p) 4 9 + nI p)) 3 (nI k) := by
          unfold S_drive_w S_up
          rw [ep]
        show Wok m (S_drive_w w (nI k))
        rw [ew]
        refine Wok.mk' (pl := k) (((S_upw_Wb hW (by omega) 4 (by decide)).upln (by decide) rfl).upl (by decide) rfl (fun B e => bsome e (by omega))) ?_ hn ?_ hc up_at (by omega)
        · rw [up_ne (by decide), up_ne (by decide), S_upw_lo (by decide)]
          exact h1
        · rw [up_ne (by decide), up_ne (by decide), S_upw_lo (by decide)]
          exact h2
theorem C_shoe {m nh nc pl : Nat} {w : Nat → Int32} {x : Int32} (hW : Wb m w) (h1 : w 1 = nI nh) (hn : nh ≤ 8) (h2 : w 2 = nI nc) (hc : nc ≤ 4) (h3 : w 3 = nI pl) (hp : pl ≤ nh) : Cok m (S_shoe w x) := by
  unfold S_shoe
  split
  · exact Cok.n (by decide)
  · rename_i g1
    obtain ⟨j, hj, rfl⟩ := ob_ex (n := 4) (by omega) (Bool.not_eq_true _ ▸ g1 : ob x 0 (nI 4 - 1) = false)
    rw [nI_clamp (by omega : j < 2 ^ 31)]
    have hb : lbd m (10 + j) = some 20 := by
      rcases (by omega : j = 0 ∨ j = 1 ∨ j = 2 ∨ j = 3) with rfl | rfl | rfl | rfl <;> rfl
    split
    · exact Cok.n (by decide)
    · split
      · exact Cok.n (by decide)
      · split
        · exact Cok.n (by decide)
        · intro _
          obtain ⟨a, ha, ea⟩ := hW (10 + j) 20 ((bd_l (by omega)).trans hb)
          refine ⟨?_, a, by omega, ea⟩
          show Wok m (up (up w 6 (w 6 - 4)) (10 + j) 0)
          refine Wok.mk' ((hW.upln (by decide) rfl).upl (x := 0) (by omega) rfl (fun B _ => Nat.zero_le B)) ?_ hn ?_ hc ?_ hp
          · rw [up_ne (by omega), up_ne (by decide)]
            exact h1
          · rw [up_ne (by omega), up_ne (by decide)]
            exact h2
          · rw [up_ne (by omega), up_ne (by decide)]
            exact h3
theorem C_bone {m nh nc pl : Nat} {w : Nat → Int32} (hm : m ≤ 1000) (hW : Wb m w) (h1 : w 1 = nI nh) (hn : nh ≤ 8) (h2 : w 2 = nI nc) (hc : nc ≤ 4) (h3 : w 3 = nI pl) (hp : pl ≤ nh) : Cok m (S_bone w pl) := by
  obtain ⟨c, b8, e8⟩ := hW 8 (3 + 9 * m) rfl
  unfold S_bone
  split
  · exact Cok.n (by decide)
  · split
    · exact Cok.n (by decide)
    · split
      · exact Cok.n (by decide)
      · rename_i g4
        intro _
        have q1 : 1 ≤ c := by
          rw [e8, show (1 : Int32) = nI 1 from rfl, nI_leI (by omega) (by omega)] at g4
          omega
        have ev : S_bone_w w (pl - 1) = up (up w (hx (pl - 1) 7) 1) 8 (nI (c - 1)) := by
          unfold S_bone_w
          dsimp only
          rw [up_lo (by decide), e8, show nI c - 1 = nI (c - 1) from pk_sub (a := c) (b := 1) q1]
        refine ⟨?_, c - 1, by omega, ?_⟩
        · show Wok m (S_bone_w w (pl - 1))
          rw [ev]
          refine Wok.mk' ((hW.uph (i := pl - 1) (f := 7) (x := 1) (by omega) (by decide) rfl (fun B e => bsome (a := 1) e (by omega))).upl (by decide) rfl (fun B e => bsome e (by omega))) ?_ hn ?_ hc ?_ hp
          · rw [up_ne (by decide), up_lo (by decide)]
            exact h1
          · rw [up_ne (by decide), up_lo (by decide)]
            exact h2
          · rw [up_ne (by decide), up_lo (by decide)]
            exact h3
        · show S_bone_w w (pl - 1) 8 = _
          rw [ev, up_at]
theorem C_bones {m : Nat} {w : Nat → Int32} {n : Int32} (hm : m ≤ 1000) (h : Wok m w) : Cok (m + 1) (S_bones w n) := by
  obtain ⟨hW, nh, nc, pl, h1, hn, h2, hc, h3, hp⟩ := h
  obtain ⟨c, b8, e8⟩ := hW 8 (3 + 9 * m) rfl
  unfold S_bones
  split
  · exact Cok.n (by decide)
  · rename_i g1
    obtain ⟨k, k1, k2, rfl⟩ := ob_ex2 (a := 1) (b := 9) (by decide) (by decide) (Bool.not_eq_true _ ▸ g1 : ob n (nI 1) (nI 9) = false)
    split
    · exact Cok.n (by decide)
    · intro _
      have ev : S_bones_w w (nI k) = up (up w 6 (w 6 - nI k)) 8 (nI (c + k)) := by
        unfold S_bones_w
        dsimp only
        rw [up_ne (by decide), e8, nI_add]
      refine ⟨?_, c + k, by omega, ?_⟩
      · show Wok (m + 1) (S_bones_w w (nI k))
        rw [ev]
        exact Wok.mk' (((hW.mono (Nat.le_succ m)).upln (by decide) rfl).upl (by decide) rfl (fun B e => bsome e (by omega))) h1 hn h2 hc h3 hp
      · show S_bones_w w (nI k) 8 = _
        rw [ev, up_at]
theorem C_mop {m nh nc pl : Nat} {w : Nat → Int32} {x : Int32} (hW : Wb m w) (h1 : w 1 = nI nh) (hn : nh ≤ 8) (h2 : w 2 = nI nc) (hc : nc ≤ 4) (h3 : w 3 = nI pl) (hp : pl ≤ nh) : Cok m (S_mop w nc pl x) := by
  unfold S_mop
  split
  · exact Cok.n (by decide)
  · rename_i g1
    obtain ⟨c, hcc, rfl⟩ := ob_ex (n := nc) (by omega) (Bool.not_eq_true _ ▸ g1 : ob x 0 (nI nc - 1) = false)
    rw [nI_clamp (by omega : c < 2 ^ 31)]
    obtain ⟨t, ht, et⟩ := hW.k (c := c) (f := 1) (by omega) (by decide) rfl
    split
    · exact Cok.n (by decide)
    · obtain ⟨d, hd, ed⟩ := hW.h (i := pl - 1) (f := 5) (by omega) (by decide) rfl
      have e2 : w (kx c 1) + (w (hx (pl - 1) 5) + 1) / 2 = nI (t + (d + 1) / 2) := by
        rw [et, ed, show (1 : Int32) = nI 1 from rfl, show (2 : Int32) = nI 2 from rfl, nI_add, pk_div (by omega) (by omega) (by omega), nI_add]
      split
      · exact Cok.n (by decide)
      · split
        · exact Cok.n (by decide)
        · rename_i g4
          intro _
          rw [e2] at g4
          have q4 := nlt (a := 30) (by decide) (by omega) g4
          refine ⟨?_, d, by omega, ed⟩
          show Wok m (S_mop_w w c (pl - 1))
          unfold S_mop_w
          rw [e2]
          refine Wok.mk' ((hW.upk (c := c) (f := 1) (x := t + (d + 1) / 2) (by omega) (by decide) rfl (fun B e => bsome (a := 30) e (by omega))).uph (x := 0) (by omega) (by decide) rfl (fun B _ => Nat.zero_le B)) ?_ hn ?_ hc ?_ hp
          · rw [up_lo (by decide), up_lk (by decide)]
            exact h1
          · rw [up_lo (by decide), up_lk (by decide)]
            exact h2
          · rw [up_lo (by decide), up_lk (by decide)]
            exact h3
theorem C_pay {m nh nc pl : Nat} {w : Nat → Int32} {x n : Int32} (hW : Wb m w) (h1 : w 1 = nI nh) (hn : nh ≤ 8) (h2 : w 2 = nI nc) (hc : nc ≤ 4) (h3 : w 3 = nI pl) (hp : pl ≤ nh) : Cok m (S_pay w nh x n) := by
  unfold S_pay
  split
  · exact Cok.n (by decide)
  · rename_i g1
    obtain ⟨i, hi, rfl⟩ := ob_ex (n := nh) (by omega) (Bool.not_eq_true _ ▸ g1 : ob x 0 (nI nh - 1) = false)
    rw [nI_clamp (by omega : i < 2 ^ 31)]
    split
    · exact Cok.n (by decide)
    · rename_i g2
      obtain ⟨k, k1, k2, rfl⟩ := ob_ex2 (a := 1) (b := 99) (by decide) (by decide) (Bool.not_eq_true _ ▸ g2 : ob n (nI 1) (nI 99) = false)
      obtain ⟨d, hd, ed⟩ := hW.h (i := i) (f := 4) (by omega) (by decide) rfl
      split
      · exact Cok.n (by decide)
      · rename_i g3
        intro _
        rw [ed] at g3
        have q3 := nlt (by omega) (by omega) g3
        have ev : S_pay_w w i (nI k) = up (up (up w (hx i 4) (nI (d - k))) 6 (w 6 + nI k)) 7 (w 7 + nI k) := by
          unfold S_pay_w
          dsimp only
          rw [up_ne (show ¬ (7 : Nat) = 6 by decide), up_lo (show (6 : Nat) < 14 by decide), up_lo (show (7 : Nat) < 14 by decide), ed, pk_sub q3]
        refine ⟨?_, d - k, by omega, ?_⟩
        · show Wok m (S_pay_w w i (nI k))
          rw [ev]
          refine Wok.mk' (((hW.uph (i := i) (f := 4) (x := d - k) (by omega) (by decide) rfl (fun B e => bsome (a := 39) e (by omega))).upln (by decide) rfl).upln (by decide) rfl) ?_ hn ?_ hc ?_ hp
          · rw [up_ne (by decide), up_ne (by decide), up_lo (by decide)]
            exact h1
          · rw [up_ne (by decide), up_ne (by decide), up_lo (by decide)]
            exact h2
          · rw [up_ne (by decide), up_ne (by decide), up_lo (by decide)]
            exact h3
        · show S_pay_w w i (nI k) (hx i 4) = _
          rw [ev, up_ne (hl_ne (by decide)), up_ne (hl_ne (by decide)), up_at]

