/-! numbers stay in their bounds: from the proof of whole -/
theorem kh_ne {c f h g : Nat} (hh : h < 8) (hg : g < 9) : ¬ kx c f = hx h g := by
  unfold kx hx
  omega
theorem kl_ne {c f g : Nat} (hg : g < 14) : ¬ kx c f = g := by
  unfold kx
  omega
theorem hl_ne {h f g : Nat} (hg : g < 14) : ¬ hx h f = g := by
  unfold hx
  omega
theorem kk_ne {c f c' g : Nat} (a : f < 4) (b : g < 4) (n : ¬ f = g) : ¬ kx c f = kx c' g := fun q => n ((kx_inj a b).mp q).2
theorem hh_ne {h f h' g : Nat} (a : f < 9) (b : g < 9) (n : ¬ f = g) : ¬ hx h f = hx h' g := fun q => n ((hx_inj a b).mp q).2
theorem pl_0 {x : Int32} {pl : Nat} (h3 : x = nI pl) (hp : pl ≤ 8) (q : x - 1 < 0) : pl = 0 := by
  by_cases z : pl = 0
  · exact z
  · rw [h3, show nI pl - 1 = nI (pl - 1) from pk_sub (a := pl) (b := 1) (by omega)] at q
    exact absurd q (nI_pos (by omega))
def hbd : Nat → Option Nat
  | 0 => some 9
  | 1 => some 2
  | 2 => some 4
  | 3 => some 20
  | 4 => some 39
  | 5 => some 35
  | 7 => some 1
  | _ => none
def kbd : Nat → Option Nat
  | 0 => some 9
  | 1 => some 30
  | 2 => some 9
  | _ => none
def lbd (m : Nat) : Nat → Option Nat
  | 1 => some 8
  | 2 => some 4
  | 3 => some 8
  | 4 => some 30
  | 8 => some (3 + 9 * m)
  | 10 => some 20
  | 11 => some 20
  | 12 => some 20
  | 13 => some 20
  | _ => none
/-- the greatest number at a place of a street's row; behind the row there is 0 -/
def bd (m j : Nat) : Option Nat := if j < 14 then lbd m j else if j < 86 then hbd ((j - 14) % 9) else if j < 102 then kbd ((j - 86) % 4) else some 0
def Wb (m : Nat) (w : Nat → Int32) : Prop := ∀ j B, bd m j = some B → ∃ x, x ≤ B ∧ w j = nI x
def Wok (m : Nat) (w : Nat → Int32) : Prop := Wb m w ∧ ∃ nh nc pl, w 1 = nI nh ∧ nh ≤ 8 ∧ w 2 = nI nc ∧ nc ≤ 4 ∧ w 3 = nI pl ∧ pl ≤ nh
theorem bd_h {m i f : Nat} (hi : i < 8) (hf : f < 9) : bd m (hx i f) = hbd f := by
  unfold bd hx
  rw [if_neg (by omega), if_pos (by omega), show (14 + 9 * i + f - 14) % 9 = f by omega]
theorem bd_k {m c f : Nat} (hc : c < 4) (hf : f < 4) : bd m (kx c f) = kbd f := by
  unfold bd kx
  rw [if_neg (by omega), if_neg (by omega), if_pos (by omega), show (86 + 4 * c + f - 86) % 4 = f by omega]
theorem bd_l {m j : Nat} (h : j < 14) : bd m j = lbd m j := if_pos h
theorem Wb.h {m : Nat} {w : Nat → Int32} (h : Wb m w) {i f B : Nat} (hi : i < 8) (hf : f < 9) (e : hbd f = some B) : ∃ x, x ≤ B ∧ w (hx i f) = nI x := h _ _ ((bd_h hi hf).trans e)
theorem Wb.k {m : Nat} {w : Nat → Int32} (h : Wb m w) {c f B : Nat} (hc : c < 4) (hf : f < 4) (e : kbd f = some B) : ∃ x, x ≤ B ∧ w (kx c f) = nI x := h _ _ ((bd_k hc hf).trans e)
theorem Wb.z {m : Nat} {w : Nat → Int32} (h : Wb m w) {j : Nat} (hj : 102 ≤ j) : w j = 0 := by
  obtain ⟨x, h1, h2⟩ := h j 0 (by unfold bd; rw [if_neg (by omega), if_neg (by omega), if_neg (by omega)])
  rw [h2, show x = 0 by omega]
  rfl
theorem Wb.set {m : Nat} {w : Nat → Int32} (h : Wb m w) {j : Nat} {v : Int32} (hv : ∀ B, bd m j = some B → ∃ x, x ≤ B ∧ v = nI x) : Wb m (up w j v) := by
  intro q B hq
  unfold up
  by_cases e : q = j
  · rw [if_pos e]
    exact hv B (e ▸ hq)
  · rw [if_neg e]
    exact h q B hq
theorem Wb.uph {m : Nat} {w : Nat → Int32} (h : Wb m w) {i f x : Nat} {v : Int32} (hi : i < 8) (hf : f < 9) (hv : v = nI x) (hx9 : ∀ B, hbd f = some B → x ≤ B) : Wb m (up w (hx i f) v) := h.set (fun B hB => ⟨x, hx9 B ((bd_h hi hf).symm.trans hB), hv⟩)
theorem Wb.uphn {m : Nat} {w : Nat → Int32} (h : Wb m w) {i f : Nat} {v : Int32} (hi : i < 8) (hf : f < 9) (hn : hbd f = none) : Wb m (up w (hx i f) v) := h.set (fun B hB => by rw [bd_h hi hf, hn] at hB; cases hB)
theorem Wb.upk {m : Nat} {w : Nat → Int32} (h : Wb m w) {c f x : Nat} {v : Int32} (hc : c < 4) (hf : f < 4) (hv : v = nI x) (hx9 : ∀ B, kbd f = some B → x ≤ B) : Wb m (up w (kx c f) v) := h.set (fun B hB => ⟨x, hx9 B ((bd_k hc hf).symm.trans hB), hv⟩)
theorem Wb.upkn {m : Nat} {w : Nat → Int32} (h : Wb m w) {c f : Nat} {v : Int32} (hc : c < 4) (hf : f < 4) (hn : kbd f = none) : Wb m (up w (kx c f) v) := h.set (fun B hB => by rw [bd_k hc hf, hn] at hB; cases hB)
theorem Wb.upl {m : Nat} {w : Nat → Int32} (h : Wb m w) {j x : Nat} {v : Int32} (hj : j < 14) (hv : v = nI x) (hx9 : ∀ B, lbd m j = some B → x ≤ B) : Wb m (up w j v) := h.set (fun B hB => ⟨x, hx9 B ((bd_l hj).symm.trans hB), hv⟩)
theorem Wb.upln {m : Nat} {w : Nat → Int32} (h : Wb m w) {j : Nat} {v : Int32} (hj : j < 14) (hn : lbd m j = none) : Wb m (up w j v) := h.set (fun B hB => by rw [bd_l hj, hn] at hB; cases hB)
theorem Wb.mono {m n : Nat} {w : Nat → Int32} (h : Wb m w) (hmn : m ≤ n) : Wb n w := by
  intro j B hB
  by_cases h8 : j = 8
  · subst h8
    obtain ⟨x, h1, h2⟩ := h 8 (3 + 9 * m) rfl
    refine ⟨x, ?_, h2⟩
    have e : some (3 + 9 * n) = some B := hB
    cases e
    omega
  · refine h j B ?_
    unfold bd at hB ⊢
    split
    · rename_i z
      rw [if_pos z] at hB
      rw [← hB]
      unfold lbd
      split <;> first | rfl | exact absurd rfl h8
    · rename_i z
      rw [if_neg z] at hB
      exact hB
theorem Wok.mono {m n : Nat} {w : Nat → Int32} (h : Wok m w) (hmn : m ≤ n) : Wok n w := ⟨h.1.mono hmn, h.2⟩
theorem Wok.dog {m : Nat} {w : Nat → Int32} (h : Wok m w) {i : Nat} (hi : i < 8) : w (hx i 1) = 0 ∨ w (hx i 1) = 1 ∨ w (hx i 1) = 2 := by
  obtain ⟨x, h1, h2⟩ := h.1.h hi (f := 1) (by decide) rfl
  rw [h2]
  rcases (by omega : x = 0 ∨ x = 1 ∨ x = 2) with rfl | rfl | rfl
  · exact Or.inl rfl
  · exact Or.inr (Or.inl rfl)
  · exact Or.inr (Or.inr rfl)
theorem Wok.bon {m : Nat} {w : Nat → Int32} (h : Wok m w) {i : Nat} (hi : i < 8) : w (hx i 7) = 0 ∨ w (hx i 7) = 1 := by
  obtain ⟨x, h1, h2⟩ := h.1.h hi (f := 7) (by decide) rfl
  rw [h2]
  rcases (by omega : x = 0 ∨ x = 1) with rfl | rfl
  · exact Or.inl rfl
  · exact Or.inr rfl
/-- by how much a sack tires -/
theorem Wok.tir {m : Nat} {w : Nat → Int32} (h : Wok m w) {c i : Nat} (hc : c < 4) (hi : i < 8) : 0 < 5 + w (kx c 0) ∧ ∃ e, 1 ≤ e ∧ e ≤ 12 ∧ S_tired w c i = nI e := by
  obtain ⟨s, h1, h2⟩ := h.1.k hc (f := 0) (by decide) rfl
  obtain ⟨f, h3, h4⟩ := h.1.h hi (f := 0) (by decide) rfl
  have e5 : 5 + w (kx c 0) = nI (5 + s) := by rw [h2, show (5 : Int32) = nI 5 from rfl, nI_add]
  have h0 : 0 < 5 + w (kx c 0) := by
    rw [e5, show (0 : Int32) = nI 0 from rfl, nI_ltI (by omega) (by omega)]
    omega
  refine ⟨h0, 1 + 6 * f / (5 + s), Nat.le_add_right 1 _, ?_, ?_⟩
  · have : 6 * f / (5 + s) ≤ 11 := by
      have z : 6 * f / (5 + s) ≤ 6 * f / 5 := Nat.div_le_div_left (by omega) (by decide)
      omega
    omega
  · rw [S_tired, if_pos h0, e5, h4, show (6 : Int32) = nI 6 from rfl, pk_mul, pk_div (by omega) (by omega) (by omega), show (1 : Int32) = nI 1 from rfl, nI_add]
theorem up_comm {w : Nat → Int32} {i j : Nat} {x y : Int32} (h : ¬ i = j) : up (up w i x) j y = up (up w j y) i x := by
  funext q
  unfold up
  by_cases h1 : q = i
  · rw [if_pos h1, if_neg (fun z => h (h1.symm.trans z))]
    rw [if_pos h1]
  · rw [if_neg h1]
    by_cases h2 : q = j
    · rw [if_pos h2, if_neg h1]
    · rw [if_neg h2, if_neg h1]
theorem pl_lt {x : Int32} {pl : Nat} (h3 : x = nI pl) (hp : pl ≤ 8) : (x - 1 < 0) ↔ pl = 0 := by
  constructor
  · exact pl_0 h3 hp
  · intro z
    rw [h3, z]
    decide
theorem S_sack_4 {w : Nat → Int32} {c h : Nat} (hh : h < 8) : S_sack w c h 4 = w 4 := by
  unfold S_sack S_take
  try dsimp only
  rw [up_ne (fun z => hl_ne (by decide) z.symm), up_ne (fun z => hl_ne (by decide) z.symm), up_ne (fun z => hl_ne (by decide) z.symm), up_ne (fun z => hl_ne (by decide) z.symm), up_ne (fun z => hl_ne (by decide) z.symm), up_ne (fun z => kl_ne (by decide) z.symm), up_ne (fun z => kl_ne (by decide) z.symm), up_ne (fun z => kl_ne (by decide) z.symm)]
theorem S_tired_cg {w v : Nat → Int32} {c h : Nat} (h1 : w (kx c 0) = v (kx c 0)) (h2 : w (hx h 0) = v (hx h 0)) : S_tired w c h = S_tired v c h := by
  unfold S_tired
  rw [h1, h2]
theorem S_sks_4 {w : Nat → Int32} {c h : Nat} (hh : h < 8) : ∀ i, S_sks w c h i 4 = w 4
  | 0 => rfl
  | i + 1 => by rw [S_sks, S_sack_4 hh, S_sks_4 hh i]
def bl (w : Nat → Int32) (c : Nat) : Int32 := if w (kx c 2) + 1 < 9 then w (kx c 2) + 1 else 9
theorem S_sack_e {w : Nat → Int32} {c h : Nat} (hh : h < 8) : S_sack w c h = up (up (up (up (up (up (up (up w (kx c 1) (w (kx c 1) + S_tired w c h)) (kx c 2) (bl w c)) (kx c 3) (w (kx c 3) + 1)) (hx h 3) (w (hx h 3) - 1)) (hx h 4) (w (hx h 4) + 3)) (hx h 5) (w (hx h 5) + bl w c / 3)) (hx h 6) (w (hx h 6) + 1)) (hx h 8) (w (hx h 8) + 1) := by
  have kk : ∀ (v : Nat → Int32) (f g : Nat) (y : Int32), f < 4 → g < 4 → ¬ g = f → up v (kx c f) y (kx c g) = v (kx c g) := fun v f g y a b n => up_ne (kk_ne b a n)
  have kh : ∀ (v : Nat → Int32) (f g : Nat) (y : Int32), g < 9 → up v (kx c f) y (hx h g) = v (hx h g) := fun v f g y a => up_ne (fun z => kh_ne hh a z.symm)
  have hh' : ∀ (v : Nat → Int32) (f g : Nat) (y : Int32), f < 9 → g < 9 → ¬ g = f → up v (hx h f) y (hx h g) = v (hx h g) := fun v f g y a b n => up_ne (hh_ne b a n)
  unfold S_sack S_take bl
  dsimp only
  rw [kk _ 1 2 _ (by decide) (by decide) (by decide), kk _ 2 3 _ (by decide) (by decide) (by decide), kk _ 1 3 _ (by decide) (by decide) (by decide), kk _ 3 2 _ (by decide) (by decide) (by decide), up_at,
    kh _ 3 3 _ (by decide), kh _ 2 3 _ (by decide), kh _ 1 3 _ (by decide),
    hh' _ 3 4 _ (by decide) (by decide) (by decide), kh _ 3 4 _ (by decide), kh _ 2 4 _ (by decide), kh _ 1 4 _ (by decide),
    hh' _ 4 5 _ (by decide) (by decide) (by decide), hh' _ 3 5 _ (by decide) (by decide) (by decide), kh _ 3 5 _ (by decide), kh _ 2 5 _ (by decide), kh _ 1 5 _ (by decide),
    hh' _ 5 6 _ (by decide) (by decide) (by decide), hh' _ 4 6 _ (by decide) (by decide) (by decide), hh' _ 3 6 _ (by decide) (by decide) (by decide), kh _ 3 6 _ (by decide), kh _ 2 6 _ (by decide), kh _ 1 6 _ (by decide),
    hh' _ 6 8 _ (by decide) (by decide) (by decide), hh' _ 5 8 _ (by decide) (by decide) (by decide), hh' _ 4 8 _ (by decide) (by decide) (by decide), hh' _ 3 8 _ (by decide) (by decide) (by decide), kh _ 3 8 _ (by decide), kh _ 2 8 _ (by decide), kh _ 1 8 _ (by decide)]
theorem S_sack_k {w : Nat → Int32} {c h g : Nat} (hh : h < 8) (hg : g < 4) (n : ¬ g = 1) (n2 : ¬ g = 2) (n3 : ¬ g = 3) : S_sack w c h (kx c g) = w (kx c g) := by
  rw [S_sack_e hh, up_ne (kh_ne hh (by decide)), up_ne (kh_ne hh (by decide)), up_ne (kh_ne hh (by decide)), up_ne (kh_ne hh (by decide)), up_ne (kh_ne hh (by decide)), up_ne (kk_ne hg (by decide) n3), up_ne (kk_ne hg (by decide) n2), up_ne (kk_ne hg (by decide) n)]
theorem S_sack_k1 {w : Nat → Int32} {c h : Nat} (hh : h < 8) : S_sack w c h (kx c 1) = w (kx c 1) + S_tired w c h := by
  rw [S_sack_e hh, up_ne (kh_ne hh (by decide)), up_ne (kh_ne hh (by decide)), up_ne (kh_ne hh (by decide)), up_ne (kh_ne hh (by decide)), up_ne (kh_ne hh (by decide)), up_ne (kk_ne (by decide) (by decide) (by decide)), up_ne (kk_ne (by decide) (by decide) (by decide)), up_at]
theorem S_sack_h0 {w : Nat → Int32} {c h : Nat} (hh : h < 8) : S_sack w c h (hx h 0) = w (hx h 0) := by
  rw [S_sack_e hh, up_ne (hh_ne (by decide) (by decide) (by decide)), up_ne (hh_ne (by decide) (by decide) (by decide)), up_ne (hh_ne (by decide) (by decide) (by decide)), up_ne (hh_ne (by decide) (by decide) (by decide)), up_ne (hh_ne (by decide) (by decide) (by decide)), up_ne (fun z => kh_ne hh (by decide) z.symm), up_ne (fun z => kh_ne hh (by decide) z.symm), up_ne (fun z => kh_ne hh (by decide) z.symm)]
theorem S_sack_h3 {w : Nat → Int32} {c h : Nat} (hh : h < 8) : S_sack w c h (hx h 3) = w (hx h 3) - 1 := by
  rw [S_sack_e hh, up_ne (hh_ne (by decide) (by decide) (by decide)), up_ne (hh_ne (by decide) (by decide) (by decide)), up_ne (hh_ne (by decide) (by decide) (by decide)), up_ne (hh_ne (by decide) (by decide) (by decide)), up_at]
theorem S_sack_h4 {w : Nat → Int32} {c h : Nat} (hh : h < 8) : S_sack w c h (hx h 4) = w (hx h 4) + 3 := by
  rw [S_sack_e hh, up_ne (hh_ne (by decide) (by decide) (by decide)), up_ne (hh_ne (by decide) (by decide) (by decide)), up_ne (hh_ne (by decide) (by decide) (by decide)), up_at]
theorem S_sack_h5 {w : Nat → Int32} {c h : Nat} (hh : h < 8) : S_sack w c h (hx h 5) = w (hx h 5) + bl w c / 3 := by
  rw [S_sack_e hh, up_ne (hh_ne (by decide) (by decide) (by decide)), up_ne (hh_ne (by decide) (by decide) (by decide)), up_at]
theorem S_sack_lo {w : Nat → Int32} {c h j : Nat} (hh : h < 8) (hj : j < 14) : S_sack w c h j = w j := by
  rw [S_sack_e hh, up_ne (fun z => hl_ne hj z.symm), up_ne (fun z => hl_ne hj z.symm), up_ne (fun z => hl_ne hj z.symm), up_ne (fun z => hl_ne hj z.symm), up_ne (fun z => hl_ne hj z.symm), up_ne (fun z => kl_ne hj z.symm), up_ne (fun z => kl_ne hj z.symm), up_ne (fun z => kl_ne hj z.symm)]
theorem S_sks_tired {w : Nat → Int32} {c h : Nat} (hh : h < 8) : ∀ i, S_tired (S_sks w c h i) c h = S_tired w c h
  | 0 => rfl
  | i + 1 => by
    rw [S_sks]
    exact (S_tired_cg (S_sack_k hh (by decide) (by decide) (by decide) (by decide)) (S_sack_h0 hh)).trans (S_sks_tired hh i)
theorem S_sks_k1 {w : Nat → Int32} {c h : Nat} (hh : h < 8) : ∀ i, S_sks w c h i (kx c 1) = w (kx c 1) + nI i * S_tired w c h
  | 0 => by rw [S_sks, nI_0, Int32.zero_mul, Int32.add_zero]
  | i + 1 => by rw [S_sks, S_sack_k1 hh, S_sks_k1 hh i, S_sks_tired hh, nI_succ, Int32.add_mul, Int32.one_mul, Int32.add_assoc]
theorem S_sks_lo {w : Nat → Int32} {c h j : Nat} (hh : h < 8) (hj : j < 14) : ∀ i, S_sks w c h i j = w j
  | 0 => rfl
  | i + 1 => by rw [S_sks, S_sack_lo hh hj, S_sks_lo hh hj i]
theorem S_carry_k1 {w : Nat → Int32} {c h i : Nat} (hh : h < 8) : S_carry_w w c h i (kx c 1) = S_carry_t w c h (nI i) := by
  rw [S_carry_w, up_ne (kl_ne (by decide)), S_sks_k1 hh, S_carry_t]
