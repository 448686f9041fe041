/-! the changes' bounds, both sides' ends; two throws told apart -/
theorem nI_eq9 {a b : Nat} (ha : a < 1000) (hb : b < 1000) (h : nI a = nI b) : a = b := by
  have e := congrArg Int32.toNatClampNeg h
  rwa [nI_clamp (by omega), nI_clamp (by omega)] at e
theorem Ow.mk' {m n : Nat} {w : Nat → Int32} (h : Wok m w) (h1 : w 1 = nI n) (hn : n ≤ 8) (hB : Bd n w) : Ow m w := by
  obtain ⟨kb, nh, nc, pl, q1, q2, q3, q4, q5, q6⟩ := h
  have e : nh = n := nI_eq9 (by omega) (by omega) (q1.symm.trans h1)
  subst e
  exact ⟨kb, nh, nc, pl, ⟨q1, q2⟩, ⟨q3, q4⟩, ⟨q5, q6⟩, hB⟩
theorem hO_cmd {m nh nc pl q : Nat} {w : Nat → Int32} {a b : Int32} (hm : m ≤ 999) (hW : Wb m w) (h1 : w 1 = nI nh) (hn : nh ≤ 8) (h2 : w 2 = nI nc) (hc : nc ≤ 4) (h3 : w 3 = nI pl) (hp : pl ≤ nh) (hB : Bd nh w) (z : (S_cmd w nh nc pl q a b).1.1 = 0) : Ow (m + 1) (S_cmd w nh nc pl q a b).2.2 :=
  Ow.mk' ((C_cmd (by omega) hW h1 hn h2 hc h3 hp z).1.mono (Nat.le_succ m)) ((S_cmd_12 hc hn (by omega) (Or.inl rfl)).trans h1) hn (hB.cmd hn hp)
theorem S_bones_1 {w : Nat → Int32} {n : Int32} : (S_bones w n).2.2 1 = w 1 := by
  unfold S_bones S_bones_w
  split
  · rfl
  · split
    · rfl
    · dsimp only
      rw [up_ne (by decide), up_ne (by decide)]
theorem hO_bones {m nh : Nat} {w : Nat → Int32} {n : Int32} (hm : m ≤ 999) (hW : Wok m w) (h1 : w 1 = nI nh) (hn : nh ≤ 8) (hB : Bd nh w) (z : (S_bones w n).1.1 = 0) : Ow (m + 1) (S_bones w n).2.2 :=
  Ow.mk' (C_bones (by omega) hW z).1 (S_bones_1.trans h1) hn hB.bones
theorem S_carrier_1 {w : Nat → Int32} {nc : Nat} {x : Int32} : (S_carrier w nc x).2.2 1 = w 1 := by
  unfold S_carrier S_carrier_w
  split
  · rfl
  · split
    · rfl
    · dsimp only
      rw [up_ne (by decide), up_lk (by decide)]
theorem hO_carrier {m nh nc pl : Nat} {w : Nat → Int32} {x : Int32} (hW : Wb m w) (h1 : w 1 = nI nh) (hn : nh ≤ 8) (h2 : w 2 = nI nc) (hc : nc ≤ 4) (h3 : w 3 = nI pl) (hp : pl ≤ nh) (hB : Bd nh w) (z : (S_carrier w nc x).1.1 = 0) : Ow (m + 1) (S_carrier w nc x).2.2 :=
  Ow.mk' ((C_carrier hW h1 hn h2 hc h3 hp z).1.mono (Nat.le_succ m)) (S_carrier_1.trans h1) hn hB.carrier
theorem S_order_1 {w : Nat → Int32} {nh : Nat} {x n : Int32} : (S_order w nh x n).2.2 1 = w 1 := by
  unfold S_order
  split
  · rfl
  · split
    · rfl
    · dsimp only
      rw [up_lo (by decide)]
theorem hO_order {m nh nc pl : Nat} {w : Nat → Int32} {x n : Int32} (hW : Wb m w) (h1 : w 1 = nI nh) (hn : nh ≤ 8) (h2 : w 2 = nI nc) (hc : nc ≤ 4) (h3 : w 3 = nI pl) (hp : pl ≤ nh) (hB : Bd nh w) (z : (S_order w nh x n).1.1 = 0) : Ow (m + 1) (S_order w nh x n).2.2 :=
  Ow.mk' ((C_order hW h1 hn h2 hc h3 hp z).1.mono (Nat.le_succ m)) (S_order_1.trans h1) hn hB.order
theorem S_house_1 {w : Nat → Int32} {nh : Nat} {f d : Int32} (h1 : w 1 = nI nh) (z : (S_house w nh f d).1.1 = 0) : (S_house w nh f d).2.2 1 = nI (nh + 1) ∧ nh + 1 ≤ 8 := by
  unfold S_house at z ⊢
  split at z
  · exact absurd z (show ¬ (1 : Int32) = 0 by decide)
  · rename_i n1
    split at z
    · exact absurd z (show ¬ (1 : Int32) = 0 by decide)
    · rename_i n2
      split at z
      · exact absurd z (show ¬ (2 : Int32) = 0 by decide)
      · rename_i n3
        rw [if_neg n1, if_neg n2, if_neg n3]
        refine ⟨?_, by omega⟩
        show S_house_w w nh f d 1 = _
        unfold S_house_w
        rw [up_at, up_lo (by decide), up_lo (by decide), h1, nI_succ]
theorem hO_house {m nh nc pl : Nat} {w : Nat → Int32} {f d : Int32} (hW : Wb m w) (h1 : w 1 = nI nh) (hn : nh ≤ 8) (h2 : w 2 = nI nc) (hc : nc ≤ 4) (h3 : w 3 = nI pl) (hp : pl ≤ nh) (hB : Bd nh w) (z : (S_house w nh f d).1.1 = 0) : Ow (m + 1) (S_house w nh f d).2.2 :=
  Ow.mk' ((C_house hW h1 hn h2 hc h3 hp z).1.mono (Nat.le_succ m)) (S_house_1 h1 z).1 (S_house_1 h1 z).2 (hB.house hn z)
/-- behind its numbers a row of the reference stays -/
theorem R_bones_t {u : Nat → Int32} {b n : Int32} {j : Nat} (hj : 102 ≤ j) : (R_bones u (0, b) n).2.2 j = u j := by
  unfold R_bones S_bones_w
  dsimp only
  rw [up_ne (by omega), up_ne (by omega)]
theorem R_house_t {u : Nat → Int32} {b f d : Int32} {nh j : Nat} (h1 : u 1 = nI nh) (hn8 : nh ≤ 8) (hj : 102 ≤ j) : (R_house u (0, b) nh f d).2.2 j = u j := by
  unfold R_house
  split
  · rename_i h
    obtain ⟨-, q2⟩ := hn_0 (by decide) h
    have n8 : ¬ nh = 8 := fun z => by
      rw [h1, z] at q2
      exact absurd q2 (by decide)
    unfold S_house_w
    dsimp only
    rw [up_ne (by omega), up_ne (hi_ne (by omega) (by decide) hj), up_ne (hi_ne (by omega) (by decide) hj)]
  · rfl
theorem R_carrier_t {u : Nat → Int32} {b x : Int32} {nc j : Nat} (h2 : u 2 = nI nc) (hc : nc ≤ 4) (hj : 102 ≤ j) : (R_carrier u (0, b) nc x).2.2 j = u j := by
  unfold R_carrier
  split
  · rename_i h
    obtain ⟨-, q2⟩ := hn_0 (by decide) h
    have n4 : ¬ nc = 4 := fun z => by
      rw [h2, z] at q2
      exact absurd q2 (by decide)
    unfold S_carrier_w
    dsimp only
    rw [up_ne (by omega), up_ne (ki_ne (by omega) (by decide) hj)]
  · rfl
theorem R_order_t {u : Nat → Int32} {b x n : Int32} {nh j : Nat} (hn8 : nh ≤ 8) (hj : 102 ≤ j) : (R_order u (0, b) nh x n).2.2 j = u j := by
  unfold R_order
  split
  · rename_i h
    obtain ⟨q1, -⟩ := hn_0 (by decide) h
    obtain ⟨-, q3⟩ := hn_0 (by decide) q1
    obtain ⟨c, hc, rfl⟩ := ob_ex (n := nh) (by omega) q3
    dsimp only
    rw [nI_clamp (by omega : c < 2 ^ 31), up_ne (hi_ne (by omega) (by decide) hj)]
  · rfl
theorem ifE {x a b : String} {p : Prop} [Decidable p] (h : x = if p then a else b) : x = a ∨ x = b := by
  split at h
  · exact Or.inl h
  · exact Or.inr h
theorem ifE1 {x a : String} {K : KT} (h0 : ¬ K.1 = 0) (h1 : K.1 ≤ 1) (h : x = if K.1 = 1 then a else "") : x = a := by
  rw [if_pos (by omega)] at h
  exact h
