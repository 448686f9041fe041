/-! what a change leaves keeps its bounds: from the proof of whole -/
/-- where a change goes through: its bounds hold again, its answer is no -1 -/
def Cok (m : Nat) (S : ST) : Prop := S.1.1 = 0 → Wok m S.2.2 ∧ ∃ k, k < 100000 ∧ S.2.1 = nI k
theorem Cok.hne {m : Nat} {S : ST} (h : Cok m S) (z : S.1.1 = 0) : ¬ S.2.1 = -1 := by
  obtain ⟨_, k, hk, e⟩ := h z
  rw [e]
  intro q
  have e0 : ¬ nI k < 0 := by
    rw [show (0 : Int32) = nI 0 from rfl, nI_ltI (by omega) (by omega)]
    omega
  rw [q] at e0
  exact e0 (by decide)
theorem Cok.n {m : Nat} {a b c : Int32} {u : Nat → Int32} (h : ¬ a = 0) : Cok m ((a, b), c, u) := fun z => absurd z h
theorem Wok.mk' {m nh nc pl : Nat} {w : Nat → Int32} (h : Wb m w) (h1 : w 1 = nI nh) (hn : nh ≤ 8) (h2 : w 2 = nI nc) (hc : nc ≤ 4) (h3 : w 3 = nI pl) (hp : pl ≤ nh) : Wok m w := ⟨h, nh, nc, pl, h1, hn, h2, hc, h3, hp⟩
theorem bsome {a b x : Nat} (e : some a = some b) (h : x ≤ a) : x ≤ b := by
  cases e
  exact h
theorem nlt {a b : Nat} (ha : a < 2147483648) (hb : b < 2147483648) (h : ¬ nI a < nI b) : b ≤ a := by
  rw [nI_ltI ha hb] at h
  omega
theorem up_lo {w : Nat → Int32} {i f j : Nat} {x : Int32} (hj : j < 14) : up w (hx i f) x j = w j := up_ne (fun z => hl_ne hj z.symm)
theorem up_lk {w : Nat → Int32} {i f j : Nat} {x : Int32} (hj : j < 14) : up w (kx i f) x j = w j := up_ne (fun z => kl_ne hj z.symm)
theorem C_load {m nh nc pl : Nat} {w : Nat → Int32} {n : Int32} (hW : Wb m w) (h1 : w 1 = nI nh) (hn : nh ≤ 8) (h2 : w 2 = nI nc) (hc : nc ≤ 4) (h3 : w 3 = nI pl) (hp : pl ≤ nh) : Cok m (S_load w n) := by
  obtain ⟨c, b4, e4⟩ := hW 4 30 rfl
  unfold S_load
  split
  · exact Cok.n (by decide)
  · rename_i g1
    obtain ⟨k, k1, k2, rfl⟩ := ob_ex2 (a := 1) (b := 30) (by decide) (by decide) (Bool.not_eq_true _ ▸ g1 : ob n (nI 1) (nI 30) = false)
    split
    · exact Cok.n (by decide)
    · split
      · exact Cok.n (by decide)
      · split
        · exact Cok.n (by decide)
        · rename_i g4
          intro _
          rw [e4, nI_add] at g4
          have q4 := nlt (a := 30) (by decide) (by omega) g4
          have ev : S_load_w w (nI k) = up (up w 5 (w 5 - nI k)) 4 (nI (c + k)) := by
            unfold S_load_w
            dsimp only
            rw [up_ne (by decide), e4, nI_add]
          refine ⟨?_, c + k, by omega, ?_⟩
          · show Wok m (S_load_w w (nI k))
            rw [ev]
            exact Wok.mk' ((hW.upln (by decide) rfl).upl (by decide) rfl (fun B e => bsome e (by omega))) h1 hn h2 hc h3 hp
          · show S_load_w w (nI k) 4 = _
            rw [ev, up_at]
theorem S_shoes_v (w : Nat → Int32) : ∃ k, k ≤ 4 ∧ S_shoes w = nI k := by
  have one : ∀ j, ∃ b, b ≤ 1 ∧ S_worn w j = nI b := fun j => by
    unfold S_worn
    split
    · exact ⟨0, by decide, rfl⟩
    · exact ⟨1, by decide, rfl⟩
  obtain ⟨a, ha, ea⟩ := one 0
  obtain ⟨b, hb, eb⟩ := one 1
  obtain ⟨c, hc, ec⟩ := one 2
  obtain ⟨d, hd, ed⟩ := one 3
  refine ⟨0 + a + b + c + d, by omega, ?_⟩
  unfold S_shoes
  rw [sm, sm, sm, sm, sm, ea, eb, ec, ed, show (0 : Int32) = nI 0 from rfl, nI_add, nI_add, nI_add, nI_add]
theorem mn20 {a b : Nat} (ha : a ≤ 1000) (hb : b ≤ 1000) : ∃ k, k ≤ 20 ∧ (if nI a + nI b < 20 then nI a + nI b else 20) = nI k := by
  have e : (nI (a + b) < 20) ↔ a + b < 20 := nI_ltI (a := a + b) (b := 20) (by omega) (by decide)
  rw [nI_add]
  by_cases z : a + b < 20
  · exact ⟨a + b, by omega, if_pos (e.mpr z)⟩
  · exact ⟨20, by omega, if_neg (fun y => z (e.mp y))⟩
theorem S_upw_Wb {m p : Nat} {w : Nat → Int32} (hW : Wb m w) (hp : p ≤ 1000) : ∀ i, i ≤ 4 → Wb m (S_upw w (nI p) i)
  | 0, _ => hW
  | i + 1, hi => by
    have ih := S_upw_Wb hW hp i (by omega)
    have hb : lbd m (10 + i) = some 20 := by
      rcases (by omega : i = 0 ∨ i = 1 ∨ i = 2 ∨ i = 3) with rfl | rfl | rfl | rfl <;> rfl
    obtain ⟨a, ha, ea⟩ := ih (10 + i) 20 ((bd_l (by omega)).trans hb)
    obtain ⟨k, hk, ek⟩ := mn20 (a := a) (b := p) (by omega) hp
    rw [S_upw, ea]
    exact ih.upl (by omega) ek (fun B e => bsome (hb.symm.trans e) hk)
theorem C_drive {m nh nc pl : Nat} {w : Nat → Int32} {x : Int32} (hW : Wb m w) (h1 : w 1 = nI nh) (hn : nh ≤ 8) (h2 : w 2 = nI nc) (hc : nc ≤ 4) (h3 : w 3 = nI pl) (hp : pl ≤ nh) : Cok m (S_drive w nh x) := by
  unfold S_drive
  split
  · exact Cok.n (by decide)
  · rename_i g1
    obtain ⟨k, k2, rfl⟩ := ob_ex (n := nh + 1) (by omega) (show ob x 0 (nI (nh + 1) - 1) = false by
      rw [show nI (nh + 1) - 1 = nI (nh + 1 - 1) from pk_sub (a := nh + 1) (b := 1) (by omega), Nat.add_sub_cancel]
      exact Bool.not_eq_true _ ▸ g1)
    split
    · exact Cok.n (by decide)
    · split
      · exact Cok.n (by decide)
      · intro _
        obtain ⟨v, hv, ev⟩ := S_shoes_v (S_drive_w w (nI k))
        refine ⟨?_, v, by omega, ev⟩
        have : ∃ p, p ≤ 8 ∧ (if 0 < nI k - w 3 then nI k - w 3 else 0) = nI p := by
          rw [h3]
          by_cases z : pl ≤ k
          · rw [pk_sub z]
            split
            · exact ⟨k - pl, by omega, rfl⟩
            · exact ⟨0, by decide, rfl⟩
          · rw [if_neg]
            · exact ⟨0, by decide, rfl⟩
            · rw [show nI k - nI pl = -nI (pl - k) by rw [← pk_sub (a := pl) (b := k) (by omega), Int32.neg_sub]]
              rcases (by omega : pl - k = 1 ∨ pl - k = 2 ∨ pl - k = 3 ∨ pl - k = 4 ∨ pl - k = 5 ∨ pl - k = 6 ∨ pl - k = 7 ∨ pl - k = 8) with e | e | e | e | e | e | e | e <;> rw [e] <;> decide
        obtain ⟨p, hp8, ep⟩ := this
        have ew : S_drive_w w (nI k) = up (up (S_upw w (nI p) 4) 9 (S_upw w (nI p) 4 9 + nI p)) 3 (nI k) := by
          unfold S_drive_w S_up
          rw [ep]
        show Wok m (S_drive_w w (nI k))
        rw [ew]
        refine Wok.mk' (pl := k) (((S_upw_Wb hW (by omega) 4 (by decide)).upln (by decide) rfl).upl (by decide) rfl (fun B e => bsome e (by omega))) ?_ hn ?_ hc up_at (by omega)
        · rw [up_ne (by decide), up_ne (by decide), S_upw_lo (by decide)]
          exact h1
        · rw [up_ne (by decide), up_ne (by decide), S_upw_lo (by decide)]
          exact h2
theorem C_shoe {m nh nc pl : Nat} {w : Nat → Int32} {x : Int32} (hW : Wb m w) (h1 : w 1 = nI nh) (hn : nh ≤ 8) (h2 : w 2 = nI nc) (hc : nc ≤ 4) (h3 : w 3 = nI pl) (hp : pl ≤ nh) : Cok m (S_shoe w x) := by
  unfold S_shoe
  split
  · exact Cok.n (by decide)
  · rename_i g1
    obtain ⟨j, hj, rfl⟩ := ob_ex (n := 4) (by omega) (Bool.not_eq_true _ ▸ g1 : ob x 0 (nI 4 - 1) = false)
    rw [nI_clamp (by omega : j < 2 ^ 31)]
    have hb : lbd m (10 + j) = some 20 := by
      rcases (by omega : j = 0 ∨ j = 1 ∨ j = 2 ∨ j = 3) with rfl | rfl | rfl | rfl <;> rfl
    split
    · exact Cok.n (by decide)
    · split
      · exact Cok.n (by decide)
      · split
        · exact Cok.n (by decide)
        · intro _
          obtain ⟨a, ha, ea⟩ := hW (10 + j) 20 ((bd_l (by omega)).trans hb)
          refine ⟨?_, a, by omega, ea⟩
          show Wok m (up (up w 6 (w 6 - 4)) (10 + j) 0)
          refine Wok.mk' ((hW.upln (by decide) rfl).upl (x := 0) (by omega) rfl (fun B _ => Nat.zero_le B)) ?_ hn ?_ hc ?_ hp
          · rw [up_ne (by omega), up_ne (by decide)]
            exact h1
          · rw [up_ne (by omega), up_ne (by decide)]
            exact h2
          · rw [up_ne (by omega), up_ne (by decide)]
            exact h3
theorem C_bone {m nh nc pl : Nat} {w : Nat → Int32} (hm : m ≤ 1000) (hW : Wb m w) (h1 : w 1 = nI nh) (hn : nh ≤ 8) (h2 : w 2 = nI nc) (hc : nc ≤ 4) (h3 : w 3 = nI pl) (hp : pl ≤ nh) : Cok m (S_bone w pl) := by
  obtain ⟨c, b8, e8⟩ := hW 8 (3 + 9 * m) rfl
  unfold S_bone
  split
  · exact Cok.n (by decide)
  · split
    · exact Cok.n (by decide)
    · split
      · exact Cok.n (by decide)
      · rename_i g4
        intro _
        have q1 : 1 ≤ c := by
          rw [e8, show (1 : Int32) = nI 1 from rfl, nI_leI (by omega) (by omega)] at g4
          omega
        have ev : S_bone_w w (pl - 1) = up (up w (hx (pl - 1) 7) 1) 8 (nI (c - 1)) := by
          unfold S_bone_w
          dsimp only
          rw [up_lo (by decide), e8, show nI c - 1 = nI (c - 1) from pk_sub (a := c) (b := 1) q1]
        refine ⟨?_, c - 1, by omega, ?_⟩
        · show Wok m (S_bone_w w (pl - 1))
          rw [ev]
          refine Wok.mk' ((hW.uph (i := pl - 1) (f := 7) (x := 1) (by omega) (by decide) rfl (fun B e => bsome (a := 1) e (by omega))).upl (by decide) rfl (fun B e => bsome e (by omega))) ?_ hn ?_ hc ?_ hp
          · rw [up_ne (by decide), up_lo (by decide)]
            exact h1
          · rw [up_ne (by decide), up_lo (by decide)]
            exact h2
          · rw [up_ne (by decide), up_lo (by decide)]
            exact h3
        · show S_bone_w w (pl - 1) 8 = _
          rw [ev, up_at]
theorem C_bones {m : Nat} {w : Nat → Int32} {n : Int32} (hm : m ≤ 1000) (h : Wok m w) : Cok (m + 1) (S_bones w n) := by
  obtain ⟨hW, nh, nc, pl, h1, hn, h2, hc, h3, hp⟩ := h
  obtain ⟨c, b8, e8⟩ := hW 8 (3 + 9 * m) rfl
  unfold S_bones
  split
  · exact Cok.n (by decide)
  · rename_i g1
    obtain ⟨k, k1, k2, rfl⟩ := ob_ex2 (a := 1) (b := 9) (by decide) (by decide) (Bool.not_eq_true _ ▸ g1 : ob n (nI 1) (nI 9) = false)
    split
    · exact Cok.n (by decide)
    · intro _
      have ev : S_bones_w w (nI k) = up (up w 6 (w 6 - nI k)) 8 (nI (c + k)) := by
        unfold S_bones_w
        dsimp only
        rw [up_ne (by decide), e8, nI_add]
      refine ⟨?_, c + k, by omega, ?_⟩
      · show Wok (m + 1) (S_bones_w w (nI k))
        rw [ev]
        exact Wok.mk' (((hW.mono (Nat.le_succ m)).upln (by decide) rfl).upl (by decide) rfl (fun B e => bsome e (by omega))) h1 hn h2 hc h3 hp
      · show S_bones_w w (nI k) 8 = _
        rw [ev, up_at]
theorem C_mop {m nh nc pl : Nat} {w : Nat → Int32} {x : Int32} (hW : Wb m w) (h1 : w 1 = nI nh) (hn : nh ≤ 8) (h2 : w 2 = nI nc) (hc : nc ≤ 4) (h3 : w 3 = nI pl) (hp : pl ≤ nh) : Cok m (S_mop w nc pl x) := by
  unfold S_mop
  split
  · exact Cok.n (by decide)
  · rename_i g1
    obtain ⟨c, hcc, rfl⟩ := ob_ex (n := nc) (by omega) (Bool.not_eq_true _ ▸ g1 : ob x 0 (nI nc - 1) = false)
    rw [nI_clamp (by omega : c < 2 ^ 31)]
    obtain ⟨t, ht, et⟩ := hW.k (c := c) (f := 1) (by omega) (by decide) rfl
    split
    · exact Cok.n (by decide)
    · obtain ⟨d, hd, ed⟩ := hW.h (i := pl - 1) (f := 5) (by omega) (by decide) rfl
      have e2 : w (kx c 1) + (w (hx (pl - 1) 5) + 1) / 2 = nI (t + (d + 1) / 2) := by
        rw [et, ed, show (1 : Int32) = nI 1 from rfl, show (2 : Int32) = nI 2 from rfl, nI_add, pk_div (by omega) (by omega) (by omega), nI_add]
      split
      · exact Cok.n (by decide)
      · split
        · exact Cok.n (by decide)
        · rename_i g4
          intro _
          rw [e2] at g4
          have q4 := nlt (a := 30) (by decide) (by omega) g4
          refine ⟨?_, d, by omega, ed⟩
          show Wok m (S_mop_w w c (pl - 1))
          unfold S_mop_w
          rw [e2]
          refine Wok.mk' ((hW.upk (c := c) (f := 1) (x := t + (d + 1) / 2) (by omega) (by decide) rfl (fun B e => bsome (a := 30) e (by omega))).uph (x := 0) (by omega) (by decide) rfl (fun B _ => Nat.zero_le B)) ?_ hn ?_ hc ?_ hp
          · rw [up_lo (by decide), up_lk (by decide)]
            exact h1
          · rw [up_lo (by decide), up_lk (by decide)]
            exact h2
          · rw [up_lo (by decide), up_lk (by decide)]
            exact h3
theorem C_pay {m nh nc pl : Nat} {w : Nat → Int32} {x n : Int32} (hW : Wb m w) (h1 : w 1 = nI nh) (hn : nh ≤ 8) (h2 : w 2 = nI nc) (hc : nc ≤ 4) (h3 : w 3 = nI pl) (hp : pl ≤ nh) : Cok m (S_pay w nh x n) := by
  unfold S_pay
  split
  · exact Cok.n (by decide)
  · rename_i g1
    obtain ⟨i, hi, rfl⟩ := ob_ex (n := nh) (by omega) (Bool.not_eq_true _ ▸ g1 : ob x 0 (nI nh - 1) = false)
    rw [nI_clamp (by omega : i < 2 ^ 31)]
    split
    · exact Cok.n (by decide)
    · rename_i g2
      obtain ⟨k, k1, k2, rfl⟩ := ob_ex2 (a := 1) (b := 99) (by decide) (by decide) (Bool.not_eq_true _ ▸ g2 : ob n (nI 1) (nI 99) = false)
      obtain ⟨d, hd, ed⟩ := hW.h (i := i) (f := 4) (by omega) (by decide) rfl
      split
      · exact Cok.n (by decide)
      · rename_i g3
        intro _
        rw [ed] at g3
        have q3 := nlt (by omega) (by omega) g3
        have ev : S_pay_w w i (nI k) = up (up (up w (hx i 4) (nI (d - k))) 6 (w 6 + nI k)) 7 (w 7 + nI k) := by
          unfold S_pay_w
          dsimp only
          rw [up_ne (show ¬ (7 : Nat) = 6 by decide), up_lo (show (6 : Nat) < 14 by decide), up_lo (show (7 : Nat) < 14 by decide), ed, pk_sub q3]
        refine ⟨?_, d - k, by omega, ?_⟩
        · show Wok m (S_pay_w w i (nI k))
          rw [ev]
          refine Wok.mk' (((hW.uph (i := i) (f := 4) (x := d - k) (by omega) (by decide) rfl (fun B e => bsome (a := 39) e (by omega))).upln (by decide) rfl).upln (by decide) rfl) ?_ hn ?_ hc ?_ hp
          · rw [up_ne (by decide), up_ne (by decide), up_lo (by decide)]
            exact h1
          · rw [up_ne (by decide), up_ne (by decide), up_lo (by decide)]
            exact h2
          · rw [up_ne (by decide), up_ne (by decide), up_lo (by decide)]
            exact h3
        · show S_pay_w w i (nI k) (hx i 4) = _
          rw [ev, up_ne (hl_ne (by decide)), up_ne (hl_ne (by decide)), up_at]
theorem mn9 {a : Nat} (ha : a ≤ 9) : ∃ k, k ≤ 9 ∧ (if nI a + 1 < 9 then nI a + 1 else 9) = nI k := by
  have e : (nI (a + 1) < 9) ↔ a + 1 < 9 := nI_ltI (a := a + 1) (b := 9) (by omega) (by decide)
  rw [show nI a + 1 = nI (a + 1) from nI_add a 1]
  by_cases z : a + 1 < 9
  · exact ⟨a + 1, by omega, if_pos (e.mpr z)⟩
  · exact ⟨9, by omega, if_neg (fun y => z (e.mp y))⟩
theorem S_sack_Wb {m c h t e a d p : Nat} {w : Nat → Int32} (hc : c < 4) (hh : h < 8) (hW : Wb m w) (h1 : w (kx c 1) = nI t) (he : S_tired w c h = nI e) (hte : t + e ≤ 30) (h3 : w (hx h 3) = nI a) (ha : 1 ≤ a) (ha2 : a ≤ 20) (h4 : w (hx h 4) = nI d) (hd : d ≤ 36) (h5 : w (hx h 5) = nI p) (hp : p ≤ 32) :
    Wb m (S_sack w c h) ∧ S_sack w c h (kx c 1) = nI (t + e) ∧ S_sack w c h (hx h 3) = nI (a - 1) ∧ S_sack w c h (hx h 4) = nI (d + 3) ∧ ∃ p', p' ≤ p + 3 ∧ S_sack w c h (hx h 5) = nI p' := by
  obtain ⟨b, hb, eb⟩ := hW.k (c := c) (f := 2) hc (by decide) rfl
  have hbl : ∃ k, k ≤ 9 ∧ bl w c = nI k := by
    unfold bl
    rw [eb]
    exact mn9 hb
  obtain ⟨k, hk, ek⟩ := hbl
  have q1 : w (kx c 1) + S_tired w c h = nI (t + e) := by rw [h1, he, nI_add]
  have q3 : w (hx h 3) - 1 = nI (a - 1) := by rw [h3]; exact pk_sub (a := a) (b := 1) ha
  have q4 : w (hx h 4) + 3 = nI (d + 3) := by rw [h4]; exact nI_add d 3
  have q5 : w (hx h 5) + bl w c / 3 = nI (p + k / 3) := by
    rw [h5, ek, show (3 : Int32) = nI 3 from rfl, pk_div (by omega) (by omega) (by omega), nI_add]
  refine ⟨?_, (S_sack_k1 hh).trans q1, (S_sack_h3 hh).trans q3, (S_sack_h4 hh).trans q4, p + k / 3, by omega, (S_sack_h5 hh).trans q5⟩
  rw [S_sack_e hh, q1, q3, q4, q5, ek]
  exact (((((((hW.upk (c := c) (f := 1) (x := t + e) hc (by decide) rfl (fun B z => bsome (a := 30) z (by omega))).upk (c := c) (f := 2) (x := k) hc (by decide) rfl (fun B z => bsome (a := 9) z (by omega))).upkn (c := c) (f := 3) hc (by decide) rfl).uph (i := h) (f := 3) (x := a - 1) hh (by decide) rfl (fun B z => bsome (a := 20) z (by omega))).uph (i := h) (f := 4) (x := d + 3) hh (by decide) rfl (fun B z => bsome (a := 39) z (by omega))).uph (i := h) (f := 5) (x := p + k / 3) hh (by decide) rfl (fun B z => bsome (a := 35) z (by omega))).uphn (i := h) (f := 6) hh (by decide) rfl).uphn (i := h) (f := 8) hh (by decide) rfl
theorem S_sks_Wb {m c h t e a d p : Nat} {w : Nat → Int32} (hc : c < 4) (hh : h < 8) (hW : Wb m w) (h1 : w (kx c 1) = nI t) (he : S_tired w c h = nI e) (h3 : w (hx h 3) = nI a) (ha2 : a ≤ 20) (h4 : w (hx h 4) = nI d) (hd : d ≤ 12) (h5 : w (hx h 5) = nI p) (hp : p ≤ 8) :
    ∀ i, i ≤ 9 → i ≤ a → t + i * e ≤ 30 → Wb m (S_sks w c h i) ∧ S_sks w c h i (kx c 1) = nI (t + i * e) ∧ S_sks w c h i (hx h 3) = nI (a - i) ∧ S_sks w c h i (hx h 4) = nI (d + 3 * i) ∧ ∃ p', p' ≤ p + 3 * i ∧ S_sks w c h i (hx h 5) = nI p'
  | 0, _, _, _ => ⟨hW, by rw [Nat.zero_mul]; exact h1, h3, h4, p, Nat.le_refl _, h5⟩
  | i + 1, hi, hia, hte => by
    have es : (i + 1) * e = i * e + e := Nat.succ_mul i e
    obtain ⟨w1, w2, w3, w4, p', w5, w6⟩ := S_sks_Wb hc hh hW h1 he h3 ha2 h4 hd h5 hp i (by omega) (by omega) (by omega)
    obtain ⟨v1, v2, v3, v4, p2, v5, v6⟩ := S_sack_Wb hc hh w1 w2 ((S_sks_tired hh i).trans he) (by omega) w3 (by omega) (by omega) w4 (by omega) w6 (by omega)
    refine ⟨v1, v2.trans (by rw [es, Nat.add_assoc]), v3.trans (by rw [Nat.sub_sub]), v4.trans (by rw [show d + 3 * i + 3 = d + 3 * (i + 1) by omega]), p2, by omega, v6⟩
theorem C_carry {m nh nc pl : Nat} {w : Nat → Int32} {x n : Int32} (hW : Wb m w) (h1 : w 1 = nI nh) (hn : nh ≤ 8) (h2 : w 2 = nI nc) (hc : nc ≤ 4) (h3 : w 3 = nI pl) (hp : pl ≤ nh) : Cok m (S_carry w nc pl x n) := by
  have hWk : Wok m w := Wok.mk' hW h1 hn h2 hc h3 hp
  unfold S_carry
  split
  · exact Cok.n (by decide)
  · rename_i g1
    obtain ⟨c, hcc, rfl⟩ := ob_ex (n := nc) (by omega) (Bool.not_eq_true _ ▸ g1 : ob x 0 (nI nc - 1) = false)
    split
    · exact Cok.n (by decide)
    · rename_i g2
      obtain ⟨k, k1, k2, rfl⟩ := ob_ex2 (a := 1) (b := 9) (by decide) (by decide) (Bool.not_eq_true _ ▸ g2 : ob n (nI 1) (nI 9) = false)
      rw [nI_clamp (by omega : c < 2 ^ 31), nI_clamp (by omega : k < 2 ^ 31)]
      split
      · exact Cok.n (by decide)
      · split
        · rename_i g4
          exact fun z => absurd z g4
        · rename_i g4
          split
          · exact Cok.n (by decide)
          · rename_i g5
            intro _
            obtain ⟨c4, b4, e4⟩ := hW 4 30 rfl
            obtain ⟨a, ha, ea⟩ := hW.h (i := pl - 1) (f := 3) (by omega) (by decide) rfl
            obtain ⟨d, hd, ed⟩ := hW.h (i := pl - 1) (f := 4) (by omega) (by decide) rfl
            obtain ⟨p, hpp, ep⟩ := hW.h (i := pl - 1) (f := 5) (by omega) (by decide) rfl
            obtain ⟨t, ht, et⟩ := hW.k (c := c) (f := 1) (by omega) (by decide) rfl
            obtain ⟨_, e, he1, he2, ee⟩ := hWk.tir (c := c) (i := pl - 1) (by omega) (by omega)
            unfold S_hby at g4
            rw [e4, ea, ed, ep] at g4
            have k4 : ¬ nI c4 < nI k := fun z => g4 (by rw [if_pos z]; exact (by decide : ¬ (8 : Int32) = 0))
            rw [if_neg k4] at g4
            have ka : ¬ nI a < nI k := fun z => g4 (by rw [if_pos z]; exact (by decide : ¬ (9 : Int32) = 0))
            rw [if_neg ka] at g4
            have kd : ¬ 12 < nI d := fun z => g4 (by rw [if_pos z]; exact (by decide : ¬ (10 : Int32) = 0))
            rw [if_neg kd] at g4
            have kp : ¬ 8 < nI p := fun z => g4 (by rw [if_pos z]; exact (by decide : ¬ (11 : Int32) = 0))
            have n4 := nlt (by omega) (by omega) k4
            have na := nlt (by omega) (by omega) ka
            have nd := nlt (a := 12) (by decide) (by omega) kd
            have np := nlt (a := 8) (by decide) (by omega) kp
            have hke : k * e ≤ 9 * 12 := Nat.mul_le_mul k2 he2
            have et2 : S_carry_t w c (pl - 1) (nI k) = nI (t + k * e) := by rw [S_carry_t, et, ee, pk_mul, nI_add]
            rw [et2] at g5
            have n5 := nlt (a := 30) (by decide) (by omega) g5
            obtain ⟨v1, v2, v3, v4, p2, v5, v6⟩ := S_sks_Wb (c := c) (h := pl - 1) (by omega) (by omega) hW et ee ea ha ed (by omega) ep (by omega) k k2 na (by omega)
            have el : S_sks w c (pl - 1) k 4 - nI k = nI (c4 - k) := by rw [S_sks_4 (by omega), e4, pk_sub n4]
            refine ⟨?_, t + k * e, by omega, ?_⟩
            · show Wok m (S_carry_w w c (pl - 1) k)
              unfold S_carry_w
              rw [el]
              refine Wok.mk' (v1.upl (x := c4 - k) (by decide) rfl (fun B z => bsome (a := 30) z (by omega))) ?_ hn ?_ hc ?_ hp
              · rw [up_ne (by decide), S_sks_lo (by omega) (by decide)]
                exact h1
              · rw [up_ne (by decide), S_sks_lo (by omega) (by decide)]
                exact h2
              · rw [up_ne (by decide), S_sks_lo (by omega) (by decide)]
                exact h3
            · show S_carry_w w c (pl - 1) k (kx c 1) = _
              rw [S_carry_k1 (by omega), et2]
theorem S_hday_Wb {m i : Nat} {w : Nat → Int32} (hi : i < 8) (hW : Wb m w) : Wb m (S_hday w i) := by
  unfold S_hday
  exact (hW.uphn (i := i) (f := 6) hi (by decide) rfl).uph (i := i) (f := 7) (x := 0) hi (by decide) rfl (fun B _ => Nat.zero_le B)
theorem S_hweek_Wb {m i : Nat} {w : Nat → Int32} (hi : i < 8) (hW : Wb m w) : Wb m (S_hweek w i) := by
  obtain ⟨a, ha, ea⟩ := hW.h (i := i) (f := 3) hi (by decide) rfl
  obtain ⟨b, hb, eb⟩ := hW.h (i := i) (f := 2) hi (by decide) rfl
  obtain ⟨k, hk, ek⟩ := mn20 (a := a) (b := b) (by omega) (by omega)
  unfold S_hweek
  rw [ea, eb]
  exact hW.uph (i := i) (f := 3) (x := k) hi (by decide) ek (fun B z => bsome (a := 20) z hk)
theorem S_dayh_Wb {m : Nat} {w : Nat → Int32} {nw : Bool} (hW : Wb m w) : ∀ i, i ≤ 8 → Wb m (S_dayh w nw i)
  | 0, _ => hW
  | i + 1, hi => by
    have ih := S_dayh_Wb (nw := nw) hW i (by omega)
    unfold S_dayh
    split
    · exact S_hweek_Wb (by omega) (S_hday_Wb (by omega) ih)
    · exact S_hday_Wb (by omega) ih
theorem S_dayc_Wb {m : Nat} {w : Nat → Int32} (hW : Wb m w) : ∀ i, i ≤ 4 → Wb m (S_dayc w i)
  | 0, _ => hW
  | i + 1, hi => by
    have ih := S_dayc_Wb hW i (by omega)
    obtain ⟨a, ha, ea⟩ := ih.k (c := i) (f := 1) (by omega) (by decide) rfl
    have : ∃ k, k ≤ 30 ∧ (if 0 < nI a - 8 then nI a - 8 else 0) = nI k := by
      by_cases z : 8 ≤ a
      · rw [show nI a - 8 = nI (a - 8) from pk_sub (a := a) (b := 8) z]
        by_cases y : 0 < a - 8
        · exact ⟨a - 8, by omega, if_pos ((nI_ltI (a := 0) (b := a - 8) (by decide) (by omega)).mpr y)⟩
        · exact ⟨0, by omega, if_neg (fun q => y ((nI_ltI (a := 0) (b := a - 8) (by decide) (by omega)).mp q))⟩
      · refine ⟨0, by omega, ?_⟩
        rcases (by omega : a = 0 ∨ a = 1 ∨ a = 2 ∨ a = 3 ∨ a = 4 ∨ a = 5 ∨ a = 6 ∨ a = 7) with rfl | rfl | rfl | rfl | rfl | rfl | rfl | rfl <;> decide
    obtain ⟨k, hk, ek⟩ := this
    unfold S_dayc S_cday
    dsimp only
    rw [ea]
    exact (ih.upk (c := i) (f := 1) (x := k) (by omega) (by decide) ek (fun B z => bsome (a := 30) z hk)).upk (c := i) (f := 2) (x := 0) (by omega) (by decide) rfl (fun B _ => Nat.zero_le B)
theorem S_dys_Wb {m nh nc : Nat} {w : Nat → Int32} (hn : nh ≤ 8) (hc : nc ≤ 4) (hW : Wb m w) : ∀ i, Wb m (S_dys w nh nc i)
  | 0 => hW
  | i + 1 => by
    unfold S_dys S_day
    exact S_dayc_Wb (S_dayh_Wb ((S_dys_Wb hn hc hW i).upln (by decide) rfl) nh hn) nc hc
theorem C_days {m nh nc pl : Nat} {w : Nat → Int32} {x : Int32} (hW : Wb m w) (h1 : w 1 = nI nh) (hn : nh ≤ 8) (h2 : w 2 = nI nc) (hc : nc ≤ 4) (h3 : w 3 = nI pl) (hp : pl ≤ nh) : Cok m (S_days w nh nc x) := by
  unfold S_days
  split
  · exact Cok.n (by decide)
  · intro _
    have hv := S_dys_Wb hn hc hW x.toNatClampNeg
    have sum : ∀ j, j ≤ 8 → ∃ k, k ≤ 20 * j ∧ S_sum (S_dys w nh nc x.toNatClampNeg) j 3 = nI k := fun j => by
      induction j with
      | zero => exact fun _ => ⟨0, Nat.le_refl _, rfl⟩
      | succ j ih =>
        intro hj
        obtain ⟨k, hk, ek⟩ := ih (by omega)
        obtain ⟨a, ha, ea⟩ := hv.h (i := j) (f := 3) (by omega) (by decide) rfl
        refine ⟨k + a, by omega, ?_⟩
        unfold S_sum at ek ⊢
        rw [sm, ek, show S_hnum (S_dys w nh nc x.toNatClampNeg) j 3 = nI a from ea, nI_add]
    obtain ⟨k, hk, ek⟩ := sum nh hn
    exact ⟨Wok.mk' hv ((S_dys_lo (by decide) (by decide) _).trans h1) hn ((S_dys_lo (by decide) (by decide) _).trans h2) hc ((S_dys_lo (by decide) (by decide) _).trans h3) hp, k, by omega, ek⟩
theorem C_house {m nh nc pl : Nat} {w : Nat → Int32} {f d : Int32} (hW : Wb m w) (h1 : w 1 = nI nh) (hn : nh ≤ 8) (h2 : w 2 = nI nc) (hc : nc ≤ 4) (h3 : w 3 = nI pl) (hp : pl ≤ nh) : Cok m (S_house w nh f d) := by
  unfold S_house
  split
  · exact Cok.n (by decide)
  · rename_i g1
    split
    · exact Cok.n (by decide)
    · rename_i g2
      split
      · exact Cok.n (by decide)
      · rename_i g3
        intro _
        obtain ⟨j, _, hj, rfl⟩ := ob_ex2 (a := 0) (b := 9) (by decide) (by decide) (Bool.not_eq_true _ ▸ g1 : ob f (nI 0) (nI 9) = false)
        obtain ⟨k, _, hk, rfl⟩ := ob_ex2 (a := 0) (b := 2) (by decide) (by decide) (Bool.not_eq_true _ ▸ g2 : ob d (nI 0) (nI 2) = false)
        refine ⟨?_, nh, by omega, rfl⟩
        show Wok m (S_house_w w nh (nI j) (nI k))
        have ev : S_house_w w nh (nI j) (nI k) = up (up (up w (hx nh 0) (nI j)) (hx nh 1) (nI k)) 1 (nI (nh + 1)) := by
          unfold S_house_w
          dsimp only
          rw [up_lo (by decide), up_lo (by decide), h1, nI_succ]
        rw [ev]
        refine Wok.mk' (nh := nh + 1) (((hW.uph (i := nh) (f := 0) (x := j) (by omega) (by decide) rfl (fun B z => bsome (a := 9) z hj)).uph (i := nh) (f := 1) (x := k) (by omega) (by decide) rfl (fun B z => bsome (a := 2) z hk)).upl (x := nh + 1) (by decide) rfl (fun B z => bsome (a := 8) z (by omega))) up_at (by omega) ?_ hc ?_ (by omega : pl ≤ nh + 1)
        · rw [up_ne (by decide), up_lo (by decide), up_lo (by decide)]
          exact h2
        · rw [up_ne (by decide), up_lo (by decide), up_lo (by decide)]
          exact h3
theorem C_carrier {m nh nc pl : Nat} {w : Nat → Int32} {x : Int32} (hW : Wb m w) (h1 : w 1 = nI nh) (hn : nh ≤ 8) (h2 : w 2 = nI nc) (hc : nc ≤ 4) (h3 : w 3 = nI pl) (hp : pl ≤ nh) : Cok m (S_carrier w nc x) := by
  unfold S_carrier
  split
  · exact Cok.n (by decide)
  · rename_i g1
    split
    · exact Cok.n (by decide)
    · rename_i g3
      intro _
      obtain ⟨j, _, hj, rfl⟩ := ob_ex2 (a := 1) (b := 9) (by decide) (by decide) (Bool.not_eq_true _ ▸ g1 : ob x (nI 1) (nI 9) = false)
      refine ⟨?_, nc, by omega, rfl⟩
      show Wok m (S_carrier_w w nc (nI j))
      have ev : S_carrier_w w nc (nI j) = up (up w (kx nc 0) (nI j)) 2 (nI (nc + 1)) := by
        unfold S_carrier_w
        dsimp only
        rw [up_lk (by decide), h2, nI_succ]
      rw [ev]
      refine Wok.mk' (nc := nc + 1) ((hW.upk (c := nc) (f := 0) (x := j) (by omega) (by decide) rfl (fun B z => bsome (a := 9) z hj)).upl (x := nc + 1) (by decide) rfl (fun B z => bsome (a := 4) z (by omega))) ?_ hn up_at (by omega) ?_ hp
      · rw [up_ne (by decide), up_lk (by decide)]
        exact h1
      · rw [up_ne (by decide), up_lk (by decide)]
        exact h3
theorem C_order {m nh nc pl : Nat} {w : Nat → Int32} {x n : Int32} (hW : Wb m w) (h1 : w 1 = nI nh) (hn : nh ≤ 8) (h2 : w 2 = nI nc) (hc : nc ≤ 4) (h3 : w 3 = nI pl) (hp : pl ≤ nh) : Cok m (S_order w nh x n) := by
  unfold S_order
  split
  · exact Cok.n (by decide)
  · rename_i g1
    obtain ⟨i, hi, rfl⟩ := ob_ex (n := nh) (by omega) (Bool.not_eq_true _ ▸ g1 : ob x 0 (nI nh - 1) = false)
    rw [nI_clamp (by omega : i < 2 ^ 31)]
    split
    · exact Cok.n (by decide)
    · rename_i g3
      intro _
      obtain ⟨j, _, hj, rfl⟩ := ob_ex2 (a := 0) (b := 4) (by decide) (by decide) (Bool.not_eq_true _ ▸ g3 : ob n (nI 0) (nI 4) = false)
      obtain ⟨a, ha, ea⟩ := hW.h (i := i) (f := 2) (by omega) (by decide) rfl
      refine ⟨?_, a, by omega, ea⟩
      show Wok m (up w (hx i 2) (nI j))
      refine Wok.mk' (hW.uph (i := i) (f := 2) (x := j) (by omega) (by decide) rfl (fun B z => bsome (a := 4) z hj)) ?_ hn ?_ hc ?_ hp
      · rw [up_lo (by decide)]
        exact h1
      · rw [up_lo (by decide)]
        exact h2
      · rw [up_lo (by decide)]
        exact h3
