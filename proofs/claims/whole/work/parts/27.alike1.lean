/-! numbers stay in their bounds; class and reference change alike -/
def hbd : Nat → Option Nat
  | 0 => some 9
  | 1 => some 2
  | 2 => some 4
  | 3 => some 20
  | 4 => some 39
  | 5 => some 35
  | 7 => some 1
  | _ => none
def kbd : Nat → Option Nat
  | 0 => some 9
  | 1 => some 30
  | 2 => some 9
  | _ => none
def lbd (m : Nat) : Nat → Option Nat
  | 1 => some 8
  | 2 => some 4
  | 3 => some 8
  | 4 => some 30
  | 8 => some (3 + 9 * m)
  | 10 => some 20
  | 11 => some 20
  | 12 => some 20
  | 13 => some 20
  | _ => none
/-- the greatest number at a place of a street's row; behind the row there is 0 -/
def bd (m j : Nat) : Option Nat := if j < 14 then lbd m j else if j < 86 then hbd ((j - 14) % 9) else if j < 102 then kbd ((j - 86) % 4) else some 0
def Wb (m : Nat) (w : Nat → Int32) : Prop := ∀ j B, bd m j = some B → ∃ x, x ≤ B ∧ w j = nI x
def Wok (m : Nat) (w : Nat → Int32) : Prop := Wb m w ∧ ∃ nh nc pl, w 1 = nI nh ∧ nh ≤ 8 ∧ w 2 = nI nc ∧ nc ≤ 4 ∧ w 3 = nI pl ∧ pl ≤ nh
theorem bd_h {m i f : Nat} (hi : i < 8) (hf : f < 9) : bd m (hx i f) = hbd f := by
  unfold bd hx
  rw [if_neg (by omega), if_pos (by omega), show (14 + 9 * i + f - 14) % 9 = f by omega]
theorem bd_k {m c f : Nat} (hc : c < 4) (hf : f < 4) : bd m (kx c f) = kbd f := by
  unfold bd kx
  rw [if_neg (by omega), if_neg (by omega), if_pos (by omega), show (86 + 4 * c + f - 86) % 4 = f by omega]
theorem bd_l {m j : Nat} (h : j < 14) : bd m j = lbd m j := if_pos h
theorem Wb.h {m : Nat} {w : Nat → Int32} (h : Wb m w) {i f B : Nat} (hi : i < 8) (hf : f < 9) (e : hbd f = some B) : ∃ x, x ≤ B ∧ w (hx i f) = nI x := h _ _ ((bd_h hi hf).trans e)
theorem Wb.k {m : Nat} {w : Nat → Int32} (h : Wb m w) {c f B : Nat} (hc : c < 4) (hf : f < 4) (e : kbd f = some B) : ∃ x, x ≤ B ∧ w (kx c f) = nI x := h _ _ ((bd_k hc hf).trans e)
theorem Wb.z {m : Nat} {w : Nat → Int32} (h : Wb m w) {j : Nat} (hj : 102 ≤ j) : w j = 0 := by
  obtain ⟨x, h1, h2⟩ := h j 0 (by unfold bd; rw [if_neg (by omega), if_neg (by omega), if_neg (by omega)])
  rw [h2, show x = 0 by omega]
  rfl
theorem Wb.set {m : Nat} {w : Nat → Int32} (h : Wb m w) {j : Nat} {v : Int32} (hv : ∀ B, bd m j = some B → ∃ x, x ≤ B ∧ v = nI x) : Wb m (up w j v) := by
  intro q B hq
  unfold up
  by_cases e : q = j
  · rw [if_pos e]
    exact hv B (e ▸ hq)
  · rw [if_neg e]
    exact h q B hq
theorem Wb.uph {m : Nat} {w : Nat → Int32} (h : Wb m w) {i f x : Nat} {v : Int32} (hi : i < 8) (hf : f < 9) (hv : v = nI x) (hx9 : ∀ B, hbd f = some B → x ≤ B) : Wb m (up w (hx i f) v) := h.set (fun B hB => ⟨x, hx9 B ((bd_h hi hf).symm.trans hB), hv⟩)
theorem Wb.uphn {m : Nat} {w : Nat → Int32} (h : Wb m w) {i f : Nat} {v : Int32} (hi : i < 8) (hf : f < 9) (hn : hbd f = none) : Wb m (up w (hx i f) v) := h.set (fun B hB => by rw [bd_h hi hf, hn] at hB; cases hB)
theorem Wb.upk {m : Nat} {w : Nat → Int32} (h : Wb m w) {c f x : Nat} {v : Int32} (hc : c < 4) (hf : f < 4) (hv : v = nI x) (hx9 : ∀ B, kbd f = some B → x ≤ B) : Wb m (up w (kx c f) v) := h.set (fun B hB => ⟨x, hx9 B ((bd_k hc hf).symm.trans hB), hv⟩)
theorem Wb.upkn {m : Nat} {w : Nat → Int32} (h : Wb m w) {c f : Nat} {v : Int32} (hc : c < 4) (hf : f < 4) (hn : kbd f = none) : Wb m (up w (kx c f) v) := h.set (fun B hB => by rw [bd_k hc hf, hn] at hB; cases hB)
theorem Wb.upl {m : Nat} {w : Nat → Int32} (h : Wb m w) {j x : Nat} {v : Int32} (hj : j < 14) (hv : v = nI x) (hx9 : ∀ B, lbd m j = some B → x ≤ B) : Wb m (up w j v) := h.set (fun B hB => ⟨x, hx9 B ((bd_l hj).symm.trans hB), hv⟩)
theorem Wb.upln {m : Nat} {w : Nat → Int32} (h : Wb m w) {j : Nat} {v : Int32} (hj : j < 14) (hn : lbd m j = none) : Wb m (up w j v) := h.set (fun B hB => by rw [bd_l hj, hn] at hB; cases hB)
theorem Wb.mono {m n : Nat} {w : Nat → Int32} (h : Wb m w) (hmn : m ≤ n) : Wb n w := by
  intro j B hB
  by_cases h8 : j = 8
  · subst h8
    obtain ⟨x, h1, h2⟩ := h 8 (3 + 9 * m) rfl
    refine ⟨x, ?_, h2⟩
    have e : some (3 + 9 * n) = some B := hB
    cases e
    omega
  · refine h j B ?_
    unfold bd at hB ⊢
    split
    · rename_i z
      rw [if_pos z] at hB
      rw [← hB]
      unfold lbd
      split <;> first | rfl | exact absurd rfl h8
    · rename_i z
      rw [if_neg z] at hB
      exact hB
theorem Wok.mono {m n : Nat} {w : Nat → Int32} (h : Wok m w) (hmn : m ≤ n) : Wok n w := ⟨h.1.mono hmn, h.2⟩
theorem Wok.dog {m : Nat} {w : Nat → Int32} (h : Wok m w) {i : Nat} (hi : i < 8) : w (hx i 1) = 0 ∨ w (hx i 1) = 1 ∨ w (hx i 1) = 2 := by
  obtain ⟨x, h1, h2⟩ := h.1.h hi (f := 1) (by decide) rfl
  rw [h2]
  rcases (by omega : x = 0 ∨ x = 1 ∨ x = 2) with rfl | rfl | rfl
  · exact Or.inl rfl
  · exact Or.inr (Or.inl rfl)
  · exact Or.inr (Or.inr rfl)
theorem Wok.bon {m : Nat} {w : Nat → Int32} (h : Wok m w) {i : Nat} (hi : i < 8) : w (hx i 7) = 0 ∨ w (hx i 7) = 1 := by
  obtain ⟨x, h1, h2⟩ := h.1.h hi (f := 7) (by decide) rfl
  rw [h2]
  rcases (by omega : x = 0 ∨ x = 1) with rfl | rfl
  · exact Or.inl rfl
  · exact Or.inr rfl
/-- by how much a sack tires -/
theorem Wok.tir {m : Nat} {w : Nat → Int32} (h : Wok m w) {c i : Nat} (hc : c < 4) (hi : i < 8) : 0 < 5 + w (kx c 0) ∧ ∃ e, 1 ≤ e ∧ e ≤ 12 ∧ S_tired w c i = nI e := by
  obtain ⟨s, h1, h2⟩ := h.1.k hc (f := 0) (by decide) rfl
  obtain ⟨f, h3, h4⟩ := h.1.h hi (f := 0) (by decide) rfl
  have e5 : 5 + w (kx c 0) = nI (5 + s) := by rw [h2, show (5 : Int32) = nI 5 from rfl, nI_add]
  have h0 : 0 < 5 + w (kx c 0) := by
    rw [e5, show (0 : Int32) = nI 0 from rfl, nI_ltI (by omega) (by omega)]
    omega
  refine ⟨h0, 1 + 6 * f / (5 + s), Nat.le_add_right 1 _, ?_, ?_⟩
  · have : 6 * f / (5 + s) ≤ 11 := by
      have z : 6 * f / (5 + s) ≤ 6 * f / 5 := Nat.div_le_div_left (by omega) (by decide)
      omega
    omega
  · rw [S_tired, if_pos h0, e5, h4, show (6 : Int32) = nI 6 from rfl, pk_mul, pk_div (by omega) (by omega) (by omega), show (1 : Int32) = nI 1 from rfl, nI_add]
theorem Wok.can {m : Nat} {w : Nat → Int32} (h : Wok m w) {c i : Nat} (hc : c < 4) (hi : i < 8) : ∃ p, p < 1000 ∧ S_can w c i = nI p := by
  obtain ⟨h0, e, h1, h2, h3⟩ := h.tir hc hi
  obtain ⟨t, h4, h5⟩ := h.1.k hc (f := 1) (by decide) rfl
  refine ⟨(30 - t) / e, ?_, ?_⟩
  · have := Nat.div_le_self (30 - t) e
    omega
  · rw [S_can, if_pos (by rw [h3, show (0 : Int32) = nI 0 from rfl, nI_ltI (by omega) (by omega)]; omega), h3, h5, show (30 : Int32) = nI 30 from rfl, pk_sub h4, pk_div (by omega) (by omega) (by omega)]
def RSok (P : Int32 × Int32) (R S : ST) : Prop := (S.1.1 = 0 → R = (P, S.2)) ∧ (¬ S.1.1 = 0 → R.1 = S.1)
theorem RSok.n {P : Int32 × Int32} {R S : ST} (h : ¬ S.1.1 = 0) (e : R.1 = S.1) : RSok P R S := ⟨fun z => absurd z h, fun _ => e⟩
theorem RSok.y {P : Int32 × Int32} {R S : ST} (h : S.1.1 = 0) (e : R = (P, S.2)) : RSok P R S := ⟨fun _ => e, fun z => absurd h z⟩
theorem up_comm {w : Nat → Int32} {i j : Nat} {x y : Int32} (h : ¬ i = j) : up (up w i x) j y = up (up w j y) i x := by
  funext q
  unfold up
  by_cases h1 : q = i
  · rw [if_pos h1, if_neg (fun z => h (h1.symm.trans z))]
    rw [if_pos h1]
  · rw [if_neg h1]
    by_cases h2 : q = j
    · rw [if_pos h2, if_neg h1]
    · rw [if_neg h2, if_neg h1]
theorem RS_load {u : Nat → Int32} {b n : Int32} : RSok (0, b) (R_load u (0, b) n) (S_load u n) := by
  unfold RSok R_load S_load
  by_cases h1 : ob n 1 30 = true
  · simp [RP_load, hn, h1]
  · by_cases h2 : u 3 = 0
    · by_cases h3 : u 5 < n
      · simp [RP_load, hn, h1, h2, h3]
      · by_cases h4 : 30 < u 4 + n
        · simp [RP_load, hn, h1, h2, h3, h4]
        · simp [RP_load, hn, h1, h2, h3, h4]
    · simp [RP_load, hn, h1, h2]
theorem RS_drive {u : Nat → Int32} {b x : Int32} {nh : Nat} (e1 : u 1 = nI nh) : RSok (0, b) (R_drive u (0, b) x) (S_drive u nh x) := by
  unfold RSok R_drive S_drive
  by_cases h1 : ob x 0 (nI nh) = true
  · simp [RP_drive, hn, h1, e1]
  · by_cases h2 : x = u 3
    · simp [RP_drive, hn, h1, h2, e1]
      rw [h2] at h1
      simp [h1]
    · by_cases h3 : u 3 < x
      · by_cases h4 : S_shoes u < 3
        · simp [RP_drive, hn, h1, h2, h3, h4, e1]
        · simp [RP_drive, hn, h1, h2, h3, h4, e1]
      · simp [RP_drive, hn, h1, h2, h3, e1]
theorem RS_shoe {u : Nat → Int32} {b x : Int32} : RSok (0, b) (R_shoe u (0, b) x) (S_shoe u x) := by
  have hw : R_shoe_w u x.toNatClampNeg = S_shoe_w u x.toNatClampNeg := by
    unfold R_shoe_w S_shoe_w
    dsimp only
    rw [up_ne (by omega)]
    exact up_comm (by omega)
  unfold RSok R_shoe S_shoe
  rw [hw]
  by_cases h1 : ob x 0 3 = true
  · simp [RP_shoe, hn, h1]
  · have h1b : R_was u x = u (10 + x.toNatClampNeg) := by simp [R_was, h1]
    rw [h1b]
    by_cases h2 : u 3 = 0
    · by_cases h3 : u (10 + x.toNatClampNeg) = 0
      · simp [RP_shoe, hn, h1, h2, h3]
      · by_cases h4 : u 6 < 4
        · simp [RP_shoe, hn, h1, h2, h3, h4]
        · simp [RP_shoe, hn, h1, h2, h3, h4]
    · simp [RP_shoe, hn, h1, h2]
theorem pl_lt {x : Int32} {pl : Nat} (h3 : x = nI pl) (hp : pl ≤ 8) : (x - 1 < 0) ↔ pl = 0 := by
  constructor
  · exact pl_0 h3 hp
  · intro z
    rw [h3, z]
    decide
theorem RS_bone {m : Nat} {u : Nat → Int32} (hW : Wok m u) (hm : m ≤ 1000) {b : Int32} {pl : Nat} (h3 : u 3 = nI pl) (hp : pl ≤ 8) : RSok (0, b) (R_bone u (0, b) pl) (S_bone u pl) := by
  unfold RSok R_bone S_bone
  have e3 := pl_lt h3 hp
  by_cases h1 : pl = 0
  · have h1b : u 3 - 1 < 0 := e3.mpr h1
    simp [RP_bone1, hn, h1, h1b]
  · have h1b : ¬ u 3 - 1 < 0 := fun z => h1 (e3.mp z)
    obtain ⟨bx, q1, q2⟩ := hW.1 8 (3 + 9 * m) rfl
    have e8 : (1 ≤ u 8) ↔ ¬ u 8 = 0 := by
      rw [q2, show (1 : Int32) = nI 1 from rfl, nI_leI (by omega) (by omega), show (0 : Int32) = nI 0 from rfl, nI_eq (by omega) (by omega)]
      omega
    rcases hW.bon (i := pl - 1) (by omega) with hb | hb <;> by_cases hd : u (hx (pl - 1) 1) = 0 <;> by_cases h8 : u 8 = 0 <;> simp [RP_bone1, RP_bone2, hn, h1, h1b, hb, hd, h8, e8]
theorem RS_bones {u : Nat → Int32} {b n : Int32} : RSok (0, b) (R_bones u (0, b) n) (S_bones u n) := by
  unfold RSok R_bones S_bones
  by_cases h1 : ob n 1 9 = true
  · simp [RP_bones, hn, h1]
  · by_cases h2 : u 6 < n
    · simp [RP_bones, hn, h1, h2]
    · simp [RP_bones, hn, h1, h2]
theorem RS_mop {u : Nat → Int32} {b x : Int32} {nc pl : Nat} (hm : nc ≤ 4) (h3 : u 3 = nI pl) (hp : pl ≤ 8) : RSok (0, b) (R_mop u (0, b) nc pl x) (S_mop u nc pl x) := by
  have e3 := pl_lt h3 hp
  have hw : ∀ c h, h < 8 → R_mop_w u c h = S_mop_w u c h := fun c h hh => up_comm (fun z => kh_ne hh (by decide) z.symm)
  unfold RSok R_mop S_mop
  by_cases h0 : ob x 0 (nI nc - 1) = true
  · simp [RP_mop1, hn, h0]
  · by_cases h1 : pl = 0
    · have h1b : u 3 - 1 < 0 := e3.mpr h1
      simp [RP_mop1, hn, h0, h1, h1b]
    · have h1b : ¬ u 3 - 1 < 0 := fun z => h1 (e3.mp z)
      rw [hw _ _ (by omega)]
      by_cases h2 : u (hx (pl - 1) 5) = 0
      · simp [RP_mop1, RP_mop2, hn, h0, h1, h1b, h2]
      · by_cases h4 : 30 < mopT u x.toNatClampNeg (pl - 1)
        · have h5 := h4
          unfold mopT at h5
          simp [RP_mop1, RP_mop2, hn, h0, h1, h1b, h2, mopT, h5]
        · have h5 := h4
          unfold mopT at h5
          simp [RP_mop1, RP_mop2, hn, h0, h1, h1b, h2, mopT, h5]
theorem RS_pay {u : Nat → Int32} {b x n : Int32} {nh : Nat} : RSok (0, b) (R_pay u (0, b) nh x n) (S_pay u nh x n) := by
  unfold RSok R_pay S_pay
  by_cases h0 : ob x 0 (nI nh - 1) = true
  · simp [RP_pay1, hn, h0]
  · by_cases h1 : ob n 1 99 = true
    · simp [RP_pay1, hn, h0, h1]
    · by_cases h2 : u (hx x.toNatClampNeg 4) < n
      · simp [RP_pay1, RP_pay2, hn, h0, h1, h2]
      · simp [RP_pay1, RP_pay2, hn, h0, h1, h2]
theorem RS_house {u : Nat → Int32} {b f d : Int32} {nh : Nat} (e1 : u 1 = nI nh) (hn8 : nh ≤ 8) : RSok (0, b) (R_house u (0, b) nh f d) (S_house u nh f d) := by
  have e8 : (u 1 = 8) ↔ 8 ≤ nh := by
    rw [e1, show (8 : Int32) = nI 8 from rfl, nI_eq (by omega) (by omega)]
    omega
  unfold RSok R_house S_house
  by_cases h1 : ob f 0 9 = true
  · simp [RP_house, hn, h1]
  · by_cases h2 : ob d 0 2 = true
    · simp [RP_house, hn, h1, h2]
    · by_cases h3 : 8 ≤ nh
      · simp [RP_house, hn, h1, h2, h3, e8]
      · simp [RP_house, hn, h1, h2, h3, e8, e1]
        rw [e1] at e8
        simp [e8, h3]
theorem RS_carrier {u : Nat → Int32} {b x : Int32} {nc : Nat} (e1 : u 2 = nI nc) (hn4 : nc ≤ 4) : RSok (0, b) (R_carrier u (0, b) nc x) (S_carrier u nc x) := by
  have e8 : (nI nc = 4) ↔ 4 ≤ nc := by
    rw [show (4 : Int32) = nI 4 from rfl, nI_eq (by omega) (by omega)]
    omega
  unfold RSok R_carrier S_carrier
  by_cases h1 : ob x 1 9 = true
  · simp [RP_carrier, hn, h1]
  · by_cases h3 : 4 ≤ nc
    · simp [RP_carrier, hn, h1, h3, e8, e1]
    · simp [RP_carrier, hn, h1, h3, e8, e1]
theorem RS_order {u : Nat → Int32} {b x n : Int32} {nh : Nat} : RSok (0, b) (R_order u (0, b) nh x n) (S_order u nh x n) := by
  unfold RSok R_order S_order
  by_cases h0 : ob x 0 (nI nh - 1) = true
  · simp [RP_order, hn, h0]
  · by_cases h1 : ob n 0 4 = true
    · simp [RP_order, hn, h0, h1]
    · simp [RP_order, hn, h0, h1]

