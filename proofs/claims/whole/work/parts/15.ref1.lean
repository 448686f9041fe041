/-! the reference: its numbers, its small methods. rs: the state while a change is under way: P = (why, what), u = the row 'now' -/
def wy (σ : Sg) (P : Int32 × Int32) : Sg := w3 (w3 σ 20 0 15 P.1) 20 0 16 P.2
def rs (σ : Sg) (P : Int32 × Int32) (u : Nat → Int32) : Sg := row (wy σ P) 21 0 u
theorem wy_15 {σ : Sg} {P : Int32 × Int32} : (wy σ P).1 20 0 15 = P.1 := (w3_ne (by omega)).trans (w3_eq _ _ _ _ _)
theorem wy_16 {σ : Sg} {P : Int32 × Int32} : (wy σ P).1 20 0 16 = P.2 := w3_eq _ _ _ _ _
theorem rs_21 {σ : Sg} {P : Int32 × Int32} {u : Nat → Int32} : (rs σ P u).1 21 0 = u := row_at
theorem rs_20 {σ : Sg} {P : Int32 × Int32} {u : Nat → Int32} : (rs σ P u).1 20 0 = (wy σ P).1 20 0 := row_ne (by omega)
theorem rs_15 {σ : Sg} {P : Int32 × Int32} {u : Nat → Int32} : (rs σ P u).1 20 0 15 = P.1 := (congrFun rs_20 15).trans wy_15
theorem rs_16 {σ : Sg} {P : Int32 × Int32} {u : Nat → Int32} : (rs σ P u).1 20 0 16 = P.2 := (congrFun rs_20 16).trans wy_16
theorem rs_f {σ : Sg} {P : Int32 × Int32} {u : Nat → Int32} {f : Nat} (h : f < 15) : (rs σ P u).1 20 0 f = σ.1 20 0 f := (congrFun rs_20 f).trans ((w3_ne (by omega)).trans (w3_ne (by omega)))
theorem rs_a {σ : Sg} {P : Int32 × Int32} {u : Nat → Int32} {a : Nat} (h : ¬ a = 20) (h2 : ¬ a = 21) : (rs σ P u).1 a = σ.1 a := funext fun b => (row_ne (fun q => h2 q.1)).trans (funext fun c => (w3_ne (fun q => h q.1)).trans (w3_ne (fun q => h q.1)))
theorem rs_0 {σ : Sg} (h : σ.1 20 0 15 = 0) : σ = rs σ (0, σ.1 20 0 16) (σ.1 21 0) := by
  unfold rs wy
  refine Prod.ext (funext fun a => funext fun b => funext fun c => ?_) rfl
  unfold row w3
  dsimp only
  by_cases h1 : a = 21 ∧ b = 0
  · rw [if_pos h1, h1.1, h1.2]
  · rw [if_neg h1]
    by_cases h2 : a = 20 ∧ b = 0 ∧ c = 16
    · rw [if_pos h2, h2.1, h2.2.1, h2.2.2]
    · rw [if_neg h2]
      by_cases h3 : a = 20 ∧ b = 0 ∧ c = 15
      · rw [if_pos h3, h3.1, h3.2.1, h3.2.2]
        exact h
      · rw [if_neg h3]
theorem rs_w {σ : Sg} {P : Int32 × Int32} {u : Nat → Int32} {j : Nat} {x : Int32} : w3 (rs σ P u) 21 0 j x = rs σ P (up u j x) := by
  rw [w3_row, rs_21]
  unfold rs
  rw [row_row]
theorem rs_P {σ : Sg} {P Q : Int32 × Int32} {u : Nat → Int32} : wy (rs σ P u) Q = rs σ Q u := by
  unfold rs wy
  refine Prod.ext (funext fun a => funext fun b => funext fun c => ?_) rfl
  unfold row w3
  dsimp only
  by_cases h1 : a = 21 ∧ b = 0
  · have h2 : ¬ (a = 20 ∧ b = 0 ∧ c = 16) := by omega
    have h3 : ¬ (a = 20 ∧ b = 0 ∧ c = 15) := by omega
    simp only [if_pos h1, if_neg h2, if_neg h3]
  · by_cases h2 : a = 20 ∧ b = 0 ∧ c = 16
    · simp only [if_neg h1, if_pos h2]
    · by_cases h3 : a = 20 ∧ b = 0 ∧ c = 15
      · simp only [if_neg h1, if_neg h2, if_pos h3]
      · simp only [if_neg h1, if_neg h2, if_neg h3]
section VR2
variable {D : va_G} {s0 : State} {own mn : String} {cc : ByteArray} {nL : Nat} {ret : Option FieldType} {hh : List (Nat × Nat × Nat × Nat)} {l : Launch} {R : Room} {Z : ZT} {pc : Nat} {lo : List (Nat × Value)} {st : List Value} {cells slots : Nat} {B : Nat} {A : AT} {σ : Sg}
theorem VL_21 {P : Int32 × Int32} {u : Nat → Int32} {j : Nat} {i : Int32} (hdg : decode cc pc = .ok (.iaload, 1)) (hA : AOK B A) (hi : i = nI j) (hj : j < 102) (kk : V D s0 own mn cc nL ret hh l R Z (pc + 1) lo (.int (u j) :: st) (HP A (rs σ P u)) cells slots) : V D s0 own mn cc nL ret hh l R Z pc lo (.int i :: .ref (A 21 0 0) :: st) (HP A (rs σ P u)) cells slots :=
  V_iald9 hdg (hp21 hA) hi hj (by decide) (congrArg Value.int (congrFun rs_21 j)) kk
theorem VR_21 {P : Int32 × Int32} {u : Nat → Int32} {j : Nat} {i x : Int32} (hdg : decode cc pc = .ok (.iastore, 1)) (hA : AOK B A) (hi : i = nI j) (hj : j < 102) (kk : V D s0 own mn cc nL ret hh l R Z (pc + 1) lo st (HP A (rs σ P (up u j x))) cells slots) : V D s0 own mn cc nL ret hh l R Z pc lo (.int x :: .int i :: .ref (A 21 0 0) :: st) (HP A (rs σ P u)) cells slots :=
  VA_21 hdg hA hi hj (V.eqG (congrArg (HP A) rs_w) kk)
end VR2
theorem hxI (h f : Nat) : (14 : Int32) + 9 * nI h + nI f = nI (hx h f) := by
  rw [show (9 : Int32) = nI 9 from rfl, pk_mul, show (14 : Int32) = nI 14 from rfl, nI_add, nI_add]
  rfl
theorem kxI (h f : Nat) : (86 : Int32) + 4 * nI h + nI f = nI (kx h f) := by
  rw [show (4 : Int32) = nI 4 from rfl, pk_mul, show (86 : Int32) = nI 86 from rfl, nI_add, nI_add]
  rfl
theorem hx_lt {h f : Nat} (a : h < 8) (b : f < 9) : hx h f < 102 := by
  unfold hx
  omega
theorem kx_lt {h f : Nat} (a : h < 4) (b : f < 4) : kx h f < 102 := by
  unfold kx
  omega
/-- n places of v, from a on, lie over u, from b on -/
def blit (u : Nat → Int32) (b : Nat) (v : Nat → Int32) (a n : Nat) : Nat → Int32 := fun j => if b ≤ j ∧ j < b + n then v (a + (j - b)) else u j
theorem blit_0 {u v : Nat → Int32} {a b : Nat} : blit u b v a 0 = u := funext fun j => if_neg (by omega)
theorem blit_s {u v : Nat → Int32} {a b i : Nat} : up (blit u b v a i) (b + i) (v (a + i)) = blit u b v a (i + 1) := by
  funext j
  unfold up blit
  by_cases h : j = b + i
  · rw [if_pos h, if_pos (by omega), h, show a + (b + i - b) = a + i by omega]
  · rw [if_neg h]
    by_cases h2 : b ≤ j ∧ j < b + i
    · rw [if_pos h2, if_pos (by omega)]
    · rw [if_neg h2, if_neg (by omega)]
theorem blit_all {u v : Nat → Int32} (h : ∀ j, 102 ≤ j → u j = v j) : blit u 0 v 0 102 = v := by
  funext j
  unfold blit
  by_cases h2 : 0 ≤ j ∧ j < 0 + 102
  · rw [if_pos h2, show 0 + (j - 0) = j by omega]
  · rw [if_neg h2]
    exact h j (by omega)
/-- the first reason stays -/
def hn (P : Int32 × Int32) (c : Bool) (a b : Int32) : Int32 × Int32 := if c = true ∧ P.1 = 0 then (a, b) else P

set_option maxHeartbeats 4000000 in
set_option maxRecDepth 100000 in
theorem t_X8_of {D : va_G} {s0 : State} {l : Launch} {B : Nat} {A : AT} {σ : Sg} (hA : AOK B A) {P : Int32 × Int32} {u : Nat → Int32} {h f : Nat} (hh : h < 8) (hf : f < 9) : Tri D s0 l yX8_of cX8_of 3 ((some .int)) 0 0 0 [.ref (A 20 0 0), .int (nI h), .int (nI f)] (HP A (rs σ P u)) (fun r G' => r = some (.int (u (hx h f))) ∧ G' = HP A (rs σ P u)) noX := by
  refine Tri.ofV (own := RX8) (mn := "of") (by decide +kernel) rfl rfl (Nat.le_of_ble_eq_true rfl) ?_
  refine V_aload_n (i := 0) dX8_of_0 rfl rfl ?_
  refine V_getf fl_X8_9 dX8_of_1 (hp20 hA) rfl ?_
  refine V_bipush (v := 14) dX8_of_4 (by decide) ?_
  refine V_bipush (v := 9) dX8_of_6 (by decide) ?_
  refine V_iload_n (i := 1) dX8_of_8 rfl rfl ?_
  refine V_imul dX8_of_9 ?_
  refine V_iadd dX8_of_10 ?_
  refine V_iload_n (i := 2) dX8_of_11 rfl rfl ?_
  refine V_iadd dX8_of_12 ?_
  refine VL_21 dX8_of_13 hA (hxI _ _) (hx_lt hh hf) ?_
  refine V_iret dX8_of_14 rfl (Nat.le_of_ble_eq_true rfl) (Nat.le_of_ble_eq_true rfl) ?_
  exact ⟨rfl, rfl⟩

set_option maxHeartbeats 4000000 in
set_option maxRecDepth 100000 in
theorem t_X8_becomes {D : va_G} {s0 : State} {l : Launch} {B : Nat} {A : AT} {σ : Sg} (hA : AOK B A) {P : Int32 × Int32} {u : Nat → Int32} {h f : Nat} (hh : h < 8) (hf : f < 9) {x : Int32} : Tri D s0 l yX8_becomes cX8_becomes 4 (none) 0 0 0 [.ref (A 20 0 0), .int (nI h), .int (nI f), .int x] (HP A (rs σ P u)) (fun r G' => r = none ∧ G' = HP A (rs σ P (up u (hx h f) x))) noX := by
  refine Tri.ofV (own := RX8) (mn := "becomes") (by decide +kernel) rfl rfl (Nat.le_of_ble_eq_true rfl) ?_
  refine V_aload_n (i := 0) dX8_becomes_0 rfl rfl ?_
  refine V_getf fl_X8_9 dX8_becomes_1 (hp20 hA) rfl ?_
  refine V_bipush (v := 14) dX8_becomes_4 (by decide) ?_
  refine V_bipush (v := 9) dX8_becomes_6 (by decide) ?_
  refine V_iload_n (i := 1) dX8_becomes_8 rfl rfl ?_
  refine V_imul dX8_becomes_9 ?_
  refine V_iadd dX8_becomes_10 ?_
  refine V_iload_n (i := 2) dX8_becomes_11 rfl rfl ?_
  refine V_iadd dX8_becomes_12 ?_
  refine V_iload_n (i := 3) dX8_becomes_13 rfl rfl ?_
  refine VR_21 dX8_becomes_14 hA (hxI _ _) (hx_lt hh hf) ?_
  refine V_vret dX8_becomes_15 rfl (Nat.le_of_ble_eq_true rfl) (Nat.le_of_ble_eq_true rfl) ?_
  exact ⟨rfl, rfl⟩

set_option maxHeartbeats 4000000 in
set_option maxRecDepth 100000 in
theorem t_X8_ofCarrier {D : va_G} {s0 : State} {l : Launch} {B : Nat} {A : AT} {σ : Sg} (hA : AOK B A) {P : Int32 × Int32} {u : Nat → Int32} {h f : Nat} (hh : h < 4) (hf : f < 4) : Tri D s0 l yX8_ofCarrier cX8_ofCarrier 3 ((some .int)) 0 0 0 [.ref (A 20 0 0), .int (nI h), .int (nI f)] (HP A (rs σ P u)) (fun r G' => r = some (.int (u (kx h f))) ∧ G' = HP A (rs σ P u)) noX := by
  refine Tri.ofV (own := RX8) (mn := "ofCarrier") (by decide +kernel) rfl rfl (Nat.le_of_ble_eq_true rfl) ?_
  refine V_aload_n (i := 0) dX8_ofCarrier_0 rfl rfl ?_
  refine V_getf fl_X8_9 dX8_ofCarrier_1 (hp20 hA) rfl ?_
  refine V_bipush (v := 86) dX8_ofCarrier_4 (by decide) ?_
  refine V_iconst (v := 4) dX8_ofCarrier_6 (by decide) ?_
  refine V_iload_n (i := 1) dX8_ofCarrier_7 rfl rfl ?_
  refine V_imul dX8_ofCarrier_8 ?_
  refine V_iadd dX8_ofCarrier_9 ?_
  refine V_iload_n (i := 2) dX8_ofCarrier_10 rfl rfl ?_
  refine V_iadd dX8_ofCarrier_11 ?_
  refine VL_21 dX8_ofCarrier_12 hA (kxI _ _) (kx_lt hh hf) ?_
  refine V_iret dX8_ofCarrier_13 rfl (Nat.le_of_ble_eq_true rfl) (Nat.le_of_ble_eq_true rfl) ?_
  exact ⟨rfl, rfl⟩

set_option maxHeartbeats 4000000 in
set_option maxRecDepth 100000 in
theorem t_X8_carrierBecomes {D : va_G} {s0 : State} {l : Launch} {B : Nat} {A : AT} {σ : Sg} (hA : AOK B A) {P : Int32 × Int32} {u : Nat → Int32} {h f : Nat} (hh : h < 4) (hf : f < 4) {x : Int32} : Tri D s0 l yX8_carrierBecomes cX8_carrierBecomes 4 (none) 0 0 0 [.ref (A 20 0 0), .int (nI h), .int (nI f), .int x] (HP A (rs σ P u)) (fun r G' => r = none ∧ G' = HP A (rs σ P (up u (kx h f) x))) noX := by
  refine Tri.ofV (own := RX8) (mn := "carrierBecomes") (by decide +kernel) rfl rfl (Nat.le_of_ble_eq_true rfl) ?_
  refine V_aload_n (i := 0) dX8_carrierBecomes_0 rfl rfl ?_
  refine V_getf fl_X8_9 dX8_carrierBecomes_1 (hp20 hA) rfl ?_
  refine V_bipush (v := 86) dX8_carrierBecomes_4 (by decide) ?_
  refine V_iconst (v := 4) dX8_carrierBecomes_6 (by decide) ?_
  refine V_iload_n (i := 1) dX8_carrierBecomes_7 rfl rfl ?_
  refine V_imul dX8_carrierBecomes_8 ?_
  refine V_iadd dX8_carrierBecomes_9 ?_
  refine V_iload_n (i := 2) dX8_carrierBecomes_10 rfl rfl ?_
  refine V_iadd dX8_carrierBecomes_11 ?_
  refine V_iload_n (i := 3) dX8_carrierBecomes_12 rfl rfl ?_
  refine VR_21 dX8_carrierBecomes_13 hA (kxI _ _) (kx_lt hh hf) ?_
  refine V_vret dX8_carrierBecomes_14 rfl (Nat.le_of_ble_eq_true rfl) (Nat.le_of_ble_eq_true rfl) ?_
  exact ⟨rfl, rfl⟩

set_option maxHeartbeats 4000000 in
set_option maxRecDepth 100000 in
theorem t_X8_isHouse {D : va_G} {s0 : State} {l : Launch} {B : Nat} {A : AT} {σ : Sg} (hA : AOK B A) {P : Int32 × Int32} {u : Nat → Int32} {nh : Nat} (h1 : u 1 = nI nh) {x : Int32} : Tri D s0 l yX8_isHouse cX8_isHouse 2 ((some .boolean)) 1 0 0 [.ref (A 20 0 0), .int x] (HP A (rs σ P u)) (fun r G' => r = some (.int (bi (!ob x 0 (nI nh - 1)))) ∧ G' = HP A (rs σ P u)) noX := by
  refine Tri.ofV (own := RX8) (mn := "isHouse") (by decide +kernel) rfl rfl (Nat.le_of_ble_eq_true rfl) ?_
  refine V_iload_n (i := 1) dX8_isHouse_0 rfl rfl ?_
  refine V_iconst (v := 0) dX8_isHouse_1 (by decide) ?_
  refine V_aload_n (i := 0) dX8_isHouse_2 rfl rfl ?_
  refine V_getf fl_X8_9 dX8_isHouse_3 (hp20 hA) rfl ?_
  refine V_iconst (v := nI 1) dX8_isHouse_6 (by decide) ?_
  refine VL_21 dX8_isHouse_7 hA rfl (by omega) ?_
  refine V_iconst (v := 1) dX8_isHouse_8 (by decide) ?_
  refine V_isub dX8_isHouse_9 ?_
  refine Cs1_3 (d := 1) cs_X8_66 dX8_isHouse_10 (t_X8_isIn hA) (Nat.le_of_ble_eq_true rfl) ⟨Nat.le_refl _, Nat.le_refl _⟩ (by decide) ⟨Nat.le_of_ble_eq_true rfl, Nat.le_of_ble_eq_true rfl⟩ ?_
  refine V_zret dX8_isHouse_13 rfl (by first | rfl | exact bi_n _) (Nat.le_of_ble_eq_true rfl) (Nat.le_of_ble_eq_true rfl) ?_
  exact ⟨by rw [h1], rfl⟩

set_option maxHeartbeats 4000000 in
set_option maxRecDepth 100000 in
theorem t_X8_isCarrier {D : va_G} {s0 : State} {l : Launch} {B : Nat} {A : AT} {σ : Sg} (hA : AOK B A) {P : Int32 × Int32} {u : Nat → Int32} {nc : Nat} (h2 : u 2 = nI nc) {x : Int32} : Tri D s0 l yX8_isCarrier cX8_isCarrier 2 ((some .boolean)) 1 0 0 [.ref (A 20 0 0), .int x] (HP A (rs σ P u)) (fun r G' => r = some (.int (bi (!ob x 0 (nI nc - 1)))) ∧ G' = HP A (rs σ P u)) noX := by
  refine Tri.ofV (own := RX8) (mn := "isCarrier") (by decide +kernel) rfl rfl (Nat.le_of_ble_eq_true rfl) ?_
  refine V_iload_n (i := 1) dX8_isCarrier_0 rfl rfl ?_
  refine V_iconst (v := 0) dX8_isCarrier_1 (by decide) ?_
  refine V_aload_n (i := 0) dX8_isCarrier_2 rfl rfl ?_
  refine V_getf fl_X8_9 dX8_isCarrier_3 (hp20 hA) rfl ?_
  refine V_iconst (v := nI 2) dX8_isCarrier_6 (by decide) ?_
  refine VL_21 dX8_isCarrier_7 hA rfl (by omega) ?_
  refine V_iconst (v := 1) dX8_isCarrier_8 (by decide) ?_
  refine V_isub dX8_isCarrier_9 ?_
  refine Cs1_3 (d := 1) cs_X8_66 dX8_isCarrier_10 (t_X8_isIn hA) (Nat.le_of_ble_eq_true rfl) ⟨Nat.le_refl _, Nat.le_refl _⟩ (by decide) ⟨Nat.le_of_ble_eq_true rfl, Nat.le_of_ble_eq_true rfl⟩ ?_
  refine V_zret dX8_isCarrier_13 rfl (by first | rfl | exact bi_n _) (Nat.le_of_ble_eq_true rfl) (Nat.le_of_ble_eq_true rfl) ?_
  exact ⟨by rw [h2], rfl⟩

set_option maxHeartbeats 4000000 in
set_option maxRecDepth 100000 in
theorem t_X8_isShoe {D : va_G} {s0 : State} {l : Launch} {B : Nat} {A : AT} {σ : Sg} (hA : AOK B A) {x : Int32} : Tri D s0 l yX8_isShoe cX8_isShoe 1 ((some .boolean)) 1 0 0 [.int x] (HP A σ) (fun r G' => r = some (.int (bi (!ob x 0 3))) ∧ G' = HP A σ) noX := by
  refine Tri.ofV (own := RX8) (mn := "isShoe") (by decide +kernel) rfl rfl (Nat.le_of_ble_eq_true rfl) ?_
  refine V_iload_n (i := 0) dX8_isShoe_0 rfl rfl ?_
  refine V_iconst (v := 0) dX8_isShoe_1 (by decide) ?_
  refine V_iconst (v := 3) dX8_isShoe_2 (by decide) ?_
  refine Cs1_3 (d := 1) cs_X8_66 dX8_isShoe_3 (t_X8_isIn hA) (Nat.le_of_ble_eq_true rfl) ⟨Nat.le_refl _, Nat.le_refl _⟩ (by decide) ⟨Nat.le_of_ble_eq_true rfl, Nat.le_of_ble_eq_true rfl⟩ ?_
  refine V_zret dX8_isShoe_6 rfl (by first | rfl | exact bi_n _) (Nat.le_of_ble_eq_true rfl) (Nat.le_of_ble_eq_true rfl) ?_
  exact ⟨rfl, rfl⟩

set_option maxHeartbeats 4000000 in
set_option maxRecDepth 100000 in
theorem t_X8_here {D : va_G} {s0 : State} {l : Launch} {B : Nat} {A : AT} {σ : Sg} (hA : AOK B A) {P : Int32 × Int32} {u : Nat → Int32} : Tri D s0 l yX8_here cX8_here 1 ((some .int)) 0 0 0 [.ref (A 20 0 0)] (HP A (rs σ P u)) (fun r G' => r = some (.int (u 3 - 1)) ∧ G' = HP A (rs σ P u)) noX := by
  refine Tri.ofV (own := RX8) (mn := "here") (by decide +kernel) rfl rfl (Nat.le_of_ble_eq_true rfl) ?_
  refine V_aload_n (i := 0) dX8_here_0 rfl rfl ?_
  refine V_getf fl_X8_9 dX8_here_1 (hp20 hA) rfl ?_
  refine V_iconst (v := nI 3) dX8_here_4 (by decide) ?_
  refine VL_21 dX8_here_5 hA rfl (by omega) ?_
  refine V_iconst (v := 1) dX8_here_6 (by decide) ?_
  refine V_isub dX8_here_7 ?_
  refine V_iret dX8_here_8 rfl (Nat.le_of_ble_eq_true rfl) (Nat.le_of_ble_eq_true rfl) ?_
  exact ⟨rfl, rfl⟩

set_option maxHeartbeats 4000000 in
set_option maxRecDepth 100000 in
theorem t_X8_lets {D : va_G} {s0 : State} {l : Launch} {B : Nat} {A : AT} {σ : Sg} (hA : AOK B A) {P : Int32 × Int32} {u : Nat → Int32} {h : Nat} (hh : h < 8) (hd : u (hx h 1) = 0 ∨ u (hx h 1) = 1 ∨ u (hx h 1) = 2) (hb : u (hx h 7) = 0 ∨ u (hx h 7) = 1) : Tri D s0 l yX8_lets cX8_lets 2 ((some .int)) 1 0 0 [.ref (A 20 0 0), .int (nI h)] (HP A (rs σ P u)) (fun r G' => r = some (.int (S_lets u h)) ∧ G' = HP A (rs σ P u)) noX := by
  refine Tri.ofV (own := RX8) (mn := "lets") (by decide +kernel) rfl rfl (Nat.le_of_ble_eq_true rfl) ?_
  refine V_aload_n (i := 0) dX8_lets_0 rfl rfl ?_
  refine V_iload_n (i := 1) dX8_lets_1 rfl rfl ?_
  refine V_iconst (v := nI 1) dX8_lets_2 (by decide) ?_
  refine Cv1_2 (d := 1) cv_X8_74 dX8_lets_3 (t_X8_of hA hh (by decide)) (hp20 hA) rfl rfl (Nat.le_of_ble_eq_true rfl) ⟨Nat.le_refl _, Nat.le_refl _⟩ (by decide) ⟨Nat.le_of_ble_eq_true rfl, Nat.le_of_ble_eq_true rfl⟩ ?_
  refine V_if_eq (tgt := 20) dX8_lets_6 (by decide) (fun h6 => ?_) (fun h6 => ?_)
  · refine V_bipush (v := 99) dX8_lets_20 (by decide) ?_
    refine V_goto (tgt := 52) dX8_lets_22 (by decide) ?_
    refine V_iret dX8_lets_52 rfl (Nat.le_of_ble_eq_true rfl) (Nat.le_of_ble_eq_true rfl) ?_
    refine ⟨congrArg (fun z => some (Value.int z)) ?_, rfl⟩
    rcases hd with hd | hd | hd <;> rcases hb with hb | hb <;> simp_all [S_lets]
  · refine V_aload_n (i := 0) dX8_lets_9 rfl rfl ?_
    refine V_iload_n (i := 1) dX8_lets_10 rfl rfl ?_
    refine V_bipush (v := nI 7) dX8_lets_11 (by decide) ?_
    refine Cv1_2 (d := 1) cv_X8_74 dX8_lets_13 (t_X8_of hA hh (by decide)) (hp20 hA) rfl rfl (Nat.le_of_ble_eq_true rfl) ⟨Nat.le_refl _, Nat.le_refl _⟩ (by decide) ⟨Nat.le_of_ble_eq_true rfl, Nat.le_of_ble_eq_true rfl⟩ ?_
    refine V_iconst (v := 1) dX8_lets_16 (by decide) ?_
    refine V_icmp_ne (tgt := 25) dX8_lets_17 (by decide) (fun h17 => ?_) (fun h17 => ?_)
    · refine V_aload_n (i := 0) dX8_lets_25 rfl rfl ?_
      refine V_iload_n (i := 1) dX8_lets_26 rfl rfl ?_
      refine V_iconst (v := nI 1) dX8_lets_27 (by decide) ?_
      refine Cv1_2 (d := 1) cv_X8_74 dX8_lets_28 (t_X8_of hA hh (by decide)) (hp20 hA) rfl rfl (Nat.le_of_ble_eq_true rfl) ⟨Nat.le_refl _, Nat.le_refl _⟩ (by decide) ⟨Nat.le_of_ble_eq_true rfl, Nat.le_of_ble_eq_true rfl⟩ ?_
      refine V_iconst (v := 1) dX8_lets_31 (by decide) ?_
      refine V_icmp_ne (tgt := 51) dX8_lets_32 (by decide) (fun h32 => ?_) (fun h32 => ?_)
      · refine V_iconst (v := 0) dX8_lets_51 (by decide) ?_
        refine V_iret dX8_lets_52 rfl (Nat.le_of_ble_eq_true rfl) (Nat.le_of_ble_eq_true rfl) ?_
        refine ⟨congrArg (fun z => some (Value.int z)) ?_, rfl⟩
        rcases hd with hd | hd | hd <;> rcases hb with hb | hb <;> simp_all [S_lets]
      · refine V_iconst (v := 0) dX8_lets_35 (by decide) ?_
        refine V_iconst (v := 2) dX8_lets_36 (by decide) ?_
        refine V_aload_n (i := 0) dX8_lets_37 rfl rfl ?_
        refine V_iload_n (i := 1) dX8_lets_38 rfl rfl ?_
        refine V_bipush (v := nI 6) dX8_lets_39 (by decide) ?_
        refine Cv1_2 (d := 1) cv_X8_74 dX8_lets_41 (t_X8_of hA hh (by decide)) (hp20 hA) rfl rfl (Nat.le_of_ble_eq_true rfl) ⟨Nat.le_refl _, Nat.le_refl _⟩ (by decide) ⟨Nat.le_of_ble_eq_true rfl, Nat.le_of_ble_eq_true rfl⟩ ?_
        refine V_isub dX8_lets_44 ?_
        refine V_mmax cm_X8_78 dX8_lets_45 (Nat.le_of_ble_eq_true rfl) (Nat.le_of_ble_eq_true rfl) (Nat.le_of_ble_eq_true rfl) (Nat.le_of_ble_eq_true rfl) ?_
        refine V_goto (tgt := 52) dX8_lets_48 (by decide) ?_
        refine V_iret dX8_lets_52 rfl (Nat.le_of_ble_eq_true rfl) (Nat.le_of_ble_eq_true rfl) ?_
        refine ⟨congrArg (fun z => some (Value.int z)) ?_, rfl⟩
        rcases hd with hd | hd | hd <;> rcases hb with hb | hb <;> simp_all [S_lets]
    · refine V_bipush (v := 99) dX8_lets_20 (by decide) ?_
      refine V_goto (tgt := 52) dX8_lets_22 (by decide) ?_
      refine V_iret dX8_lets_52 rfl (Nat.le_of_ble_eq_true rfl) (Nat.le_of_ble_eq_true rfl) ?_
      refine ⟨congrArg (fun z => some (Value.int z)) ?_, rfl⟩
      rcases hd with hd | hd | hd <;> rcases hb with hb | hb <;> simp_all [S_lets]

set_option maxHeartbeats 4000000 in
set_option maxRecDepth 100000 in
theorem t_X8_tiredBy {D : va_G} {s0 : State} {l : Launch} {B : Nat} {A : AT} {σ : Sg} (hA : AOK B A) {P : Int32 × Int32} {u : Nat → Int32} {c h : Nat} (hc : c < 4) (hh : h < 8) (ht : 0 < 5 + u (kx c 0)) : Tri D s0 l yX8_tiredBy cX8_tiredBy 3 ((some .int)) 1 0 0 [.ref (A 20 0 0), .int (nI c), .int (nI h)] (HP A (rs σ P u)) (fun r G' => r = some (.int (S_tired u c h)) ∧ G' = HP A (rs σ P u)) noX := by
  refine Tri.ofV (own := RX8) (mn := "tiredBy") (by decide +kernel) rfl rfl (Nat.le_of_ble_eq_true rfl) ?_
  refine V_iconst (v := 1) dX8_tiredBy_0 (by decide) ?_
  refine V_bipush (v := 6) dX8_tiredBy_1 (by decide) ?_
  refine V_aload_n (i := 0) dX8_tiredBy_3 rfl rfl ?_
  refine V_iload_n (i := 2) dX8_tiredBy_4 rfl rfl ?_
  refine V_iconst (v := nI 0) dX8_tiredBy_5 (by decide) ?_
  refine Cv1_2 (d := 1) cv_X8_74 dX8_tiredBy_6 (t_X8_of hA hh (by decide)) (hp20 hA) rfl rfl (Nat.le_of_ble_eq_true rfl) ⟨Nat.le_refl _, Nat.le_refl _⟩ (by decide) ⟨Nat.le_of_ble_eq_true rfl, Nat.le_of_ble_eq_true rfl⟩ ?_
  refine V_imul dX8_tiredBy_9 ?_
  refine V_iconst (v := 5) dX8_tiredBy_10 (by decide) ?_
  refine V_aload_n (i := 0) dX8_tiredBy_11 rfl rfl ?_
  refine V_iload_n (i := 1) dX8_tiredBy_12 rfl rfl ?_
  refine V_iconst (v := nI 0) dX8_tiredBy_13 (by decide) ?_
  refine Cv1_2 (d := 1) cv_X8_83 dX8_tiredBy_14 (t_X8_ofCarrier hA hc (by decide)) (hp20 hA) rfl rfl (Nat.le_of_ble_eq_true rfl) ⟨Nat.le_refl _, Nat.le_refl _⟩ (by decide) ⟨Nat.le_of_ble_eq_true rfl, Nat.le_of_ble_eq_true rfl⟩ ?_
  refine V_iadd dX8_tiredBy_17 ?_
  refine V_idiv dX8_tiredBy_18 (fun h => by rw [h] at ht; exact absurd ht (by decide)) ?_
  refine V_iadd dX8_tiredBy_19 ?_
  refine V_iret dX8_tiredBy_20 rfl (Nat.le_of_ble_eq_true rfl) (Nat.le_of_ble_eq_true rfl) ?_
  exact ⟨by rw [S_tired, if_pos ht], rfl⟩

set_option maxHeartbeats 4000000 in
set_option maxRecDepth 100000 in
theorem t_X8_canBy {D : va_G} {s0 : State} {l : Launch} {B : Nat} {A : AT} {σ : Sg} (hA : AOK B A) {P : Int32 × Int32} {u : Nat → Int32} {c h : Nat} (hc : c < 4) (hh : h < 8) (ht : 0 < 5 + u (kx c 0)) (hs : 0 < S_tired u c h) : Tri D s0 l yX8_canBy cX8_canBy 3 ((some .int)) 2 0 0 [.ref (A 20 0 0), .int (nI c), .int (nI h)] (HP A (rs σ P u)) (fun r G' => r = some (.int (S_can u c h)) ∧ G' = HP A (rs σ P u)) noX := by
  refine Tri.ofV (own := RX8) (mn := "canBy") (by decide +kernel) rfl rfl (Nat.le_of_ble_eq_true rfl) ?_
  refine V_bipush (v := 30) dX8_canBy_0 (by decide) ?_
  refine V_aload_n (i := 0) dX8_canBy_2 rfl rfl ?_
  refine V_iload_n (i := 1) dX8_canBy_3 rfl rfl ?_
  refine V_iconst (v := nI 1) dX8_canBy_4 (by decide) ?_
  refine Cv1_2 (d := 2) cv_X8_83 dX8_canBy_5 (t_X8_ofCarrier hA hc (by decide)) (hp20 hA) rfl rfl (Nat.le_of_ble_eq_true rfl) ⟨Nat.le_refl _, Nat.le_refl _⟩ (by decide) ⟨Nat.le_of_ble_eq_true rfl, Nat.le_of_ble_eq_true rfl⟩ ?_
  refine V_isub dX8_canBy_8 ?_
  refine V_aload_n (i := 0) dX8_canBy_9 rfl rfl ?_
  refine V_iload_n (i := 1) dX8_canBy_10 rfl rfl ?_
  refine V_iload_n (i := 2) dX8_canBy_11 rfl rfl ?_
  refine Cv1_2 (d := 2) cv_X8_86 dX8_canBy_12 (t_X8_tiredBy hA hc hh ht) (hp20 hA) rfl rfl (Nat.le_of_ble_eq_true rfl) ⟨Nat.le_refl _, Nat.le_refl _⟩ (by decide) ⟨Nat.le_of_ble_eq_true rfl, Nat.le_of_ble_eq_true rfl⟩ ?_
  refine V_idiv dX8_canBy_15 (fun h => by rw [h] at hs; exact absurd hs (by decide)) ?_
  refine V_iret dX8_canBy_16 rfl (Nat.le_of_ble_eq_true rfl) (Nat.le_of_ble_eq_true rfl) ?_
  exact ⟨by rw [S_can, if_pos hs], rfl⟩

set_option maxHeartbeats 4000000 in
set_option maxRecDepth 100000 in
theorem t_X8_shoes {D : va_G} {s0 : State} {l : Launch} {B : Nat} {A : AT} {σ : Sg} (hA : AOK B A) {P : Int32 × Int32} {u : Nat → Int32} : Tri D s0 l yX8_shoes cX8_shoes 3 ((some .int)) 0 0 0 [.ref (A 20 0 0)] (HP A (rs σ P u)) (fun r G' => r = some (.int (S_shoes u)) ∧ G' = HP A (rs σ P u)) noX := by
  refine Tri.ofV (own := RX8) (mn := "shoes") (by decide +kernel) rfl rfl (Nat.le_of_ble_eq_true rfl) ?_
  have loop : ∀ n i : Nat, i + n = 4 → V D s0 RX8 "shoes" cX8_shoes 3 ((some .int)) [] l (rmd 0 0 0) (Zm D s0 0 0 (fun r G' => r = some (.int (S_shoes u)) ∧ G' = HP A (rs σ P u)) noX) 4 [(0, .ref (A 20 0 0)), (1, .int (sm (S_worn u) i)), (2, .int (nI i))] [] (HP A (rs σ P u)) 0 0 := by
    intro n
    induction n with
    | zero =>
      intro i hi9
      obtain rfl : 4 = i := by omega
      refine V_iload_n (i := 2) dX8_shoes_4 rfl rfl ?_
      refine V_iconst (v := nI 4) dX8_shoes_5 (by decide) ?_
      refine V_icmp_ge (tgt := 37) dX8_shoes_6 (by decide) (fun _ => ?_) (fun h6 => by first | exact absurd (nI_le (Nat.le_refl 4) (by omega)) h6 | exact absurd h6 (nI_le (Nat.le_refl 4) (by omega)))
      refine V_iload_n (i := 1) dX8_shoes_37 rfl rfl ?_
      refine V_iret dX8_shoes_38 rfl (Nat.le_of_ble_eq_true rfl) (Nat.le_of_ble_eq_true rfl) ?_
      exact ⟨rfl, rfl⟩
    | succ n ih =>
      intro i hi9
      have k9 := ih (i + 1) (by omega)
      have hi8 : i < 4 := by omega
      refine V_iload_n (i := 2) dX8_shoes_4 rfl rfl ?_
      refine V_iconst (v := nI 4) dX8_shoes_5 (by decide) ?_
      refine V_icmp_ge (tgt := 37) dX8_shoes_6 (by decide) (fun h6 => by first | exact absurd h6 (nI_ge (by omega) (by omega)) | exact absurd (nI_ge (by omega) (by omega)) h6) (fun _ => ?_)
      refine V_iload_n (i := 1) dX8_shoes_9 rfl rfl ?_
      refine V_aload_n (i := 0) dX8_shoes_10 rfl rfl ?_
      refine V_getf fl_X8_9 dX8_shoes_11 (hp20 hA) rfl ?_
      refine V_bipush (v := nI 10) dX8_shoes_14 (by decide) ?_
      refine V_iload_n (i := 2) dX8_shoes_16 rfl rfl ?_
      refine V_iadd dX8_shoes_17 ?_
      refine VL_21 dX8_shoes_18 hA (nI_add _ _) (by omega) ?_
      refine V_bipush (v := 20) dX8_shoes_19 (by decide) ?_
      refine V_icmp_ge (tgt := 28) dX8_shoes_21 (by decide) (fun h21 => ?_) (fun h21 => ?_)
      · have e9 : sm (S_worn u) i + 0 = sm (S_worn u) (i + 1) := by rw [sm, S_worn, if_pos h21]
        refine V_iconst (v := 0) dX8_shoes_28 (by decide) ?_
        refine V_iadd dX8_shoes_29 ?_
        refine V_istore_n (i := 1) dX8_shoes_30 rfl (by decide) ?_
        refine V_iinc (i := 2) dX8_shoes_31 rfl (inc1 _) (by decide) ?_
        refine V_goto (tgt := 4) dX8_shoes_34 (by decide) ?_
        rw [← e9] at k9
        exact V.fin [2, 1, 0] rfl rfl k9
      · have e9 : sm (S_worn u) i + 1 = sm (S_worn u) (i + 1) := by rw [sm, S_worn, if_neg h21]
        refine V_iconst (v := 1) dX8_shoes_24 (by decide) ?_
        refine V_goto (tgt := 29) dX8_shoes_25 (by decide) ?_
        refine V_iadd dX8_shoes_29 ?_
        refine V_istore_n (i := 1) dX8_shoes_30 rfl (by decide) ?_
        refine V_iinc (i := 2) dX8_shoes_31 rfl (inc1 _) (by decide) ?_
        refine V_goto (tgt := 4) dX8_shoes_34 (by decide) ?_
        rw [← e9] at k9
        exact V.fin [2, 1, 0] rfl rfl k9
  refine V_iconst (v := 0) dX8_shoes_0 (by decide) ?_
  refine V_istore_n (i := 1) dX8_shoes_1 rfl (by decide) ?_
  refine V_iconst (v := nI 0) dX8_shoes_2 (by decide) ?_
  refine V_istore_n (i := 2) dX8_shoes_3 rfl (by decide) ?_
  exact V.fin [2, 1, 0] rfl rfl (loop 4 0 (by omega))

set_option maxHeartbeats 4000000 in
set_option maxRecDepth 100000 in
theorem t_X8_sum {D : va_G} {s0 : State} {l : Launch} {B : Nat} {A : AT} {σ : Sg} (hA : AOK B A) {P : Int32 × Int32} {u : Nat → Int32} {nh q : Nat} (h1 : u 1 = nI nh) (hn : nh ≤ 8) (hq : q < 6) : Tri D s0 l yX8_sum cX8_sum 4 ((some .int)) 1 0 0 [.ref (A 20 0 0), .int (nI q)] (HP A (rs σ P u)) (fun r G' => r = some (.int (S_sum u nh q)) ∧ G' = HP A (rs σ P u)) noX := by
  refine Tri.ofV (own := RX8) (mn := "sum") (by decide +kernel) rfl rfl (Nat.le_of_ble_eq_true rfl) ?_
  have loop : ∀ n i : Nat, i + n = nh → V D s0 RX8 "sum" cX8_sum 4 ((some .int)) [] l (rmd 1 0 0) (Zm D s0 0 0 (fun r G' => r = some (.int (S_sum u nh q)) ∧ G' = HP A (rs σ P u)) noX) 4 [(0, .ref (A 20 0 0)), (1, .int (nI q)), (2, .int (sm (fun j => S_hnum u j q) i)), (3, .int (nI i))] [] (HP A (rs σ P u)) 0 0 := by
    intro n
    induction n with
    | zero =>
      intro i hi9
      obtain rfl : nh = i := by omega
      refine V_iload_n (i := 3) dX8_sum_4 rfl rfl ?_
      refine V_aload_n (i := 0) dX8_sum_5 rfl rfl ?_
      refine V_getf fl_X8_9 dX8_sum_6 (hp20 hA) rfl ?_
      refine V_iconst (v := nI 1) dX8_sum_9 (by decide) ?_
      refine VL_21 dX8_sum_10 hA rfl (by omega) ?_
      refine V_icmp_ge (tgt := 29) dX8_sum_11 (by decide) (fun _ => ?_) (fun h11 => by first | exact absurd (by rw [h1]; exact nI_le (Nat.le_refl _) (by omega)) h11 | exact absurd h11 (by rw [h1]; exact nI_le (Nat.le_refl _) (by omega)))
      refine V_iload_n (i := 2) dX8_sum_29 rfl rfl ?_
      refine V_iret dX8_sum_30 rfl (Nat.le_of_ble_eq_true rfl) (Nat.le_of_ble_eq_true rfl) ?_
      exact ⟨rfl, rfl⟩
    | succ n ih =>
      intro i hi9
      have k9 := ih (i + 1) (by omega)
      have hi8 : i < nh := by omega
      refine V_iload_n (i := 3) dX8_sum_4 rfl rfl ?_
      refine V_aload_n (i := 0) dX8_sum_5 rfl rfl ?_
      refine V_getf fl_X8_9 dX8_sum_6 (hp20 hA) rfl ?_
      refine V_iconst (v := nI 1) dX8_sum_9 (by decide) ?_
      refine VL_21 dX8_sum_10 hA rfl (by omega) ?_
      refine V_icmp_ge (tgt := 29) dX8_sum_11 (by decide) (fun h11 => by first | exact absurd h11 (by rw [h1]; exact nI_ge (by omega) (by omega)) | exact absurd (by rw [h1]; exact nI_ge (by omega) (by omega)) h11) (fun _ => ?_)
      refine V_iload_n (i := 2) dX8_sum_14 rfl rfl ?_
      refine V_aload_n (i := 0) dX8_sum_15 rfl rfl ?_
      refine V_iload_n (i := 3) dX8_sum_16 rfl rfl ?_
      refine V_iload_n (i := 1) dX8_sum_17 rfl rfl ?_
      refine Cv1_2 (d := 1) cv_X8_74 dX8_sum_18 (t_X8_of hA (by omega) (by omega)) (hp20 hA) rfl rfl (Nat.le_of_ble_eq_true rfl) ⟨Nat.le_refl _, Nat.le_refl _⟩ (by decide) ⟨Nat.le_of_ble_eq_true rfl, Nat.le_of_ble_eq_true rfl⟩ ?_
      refine V_iadd dX8_sum_21 ?_
      rw [show sm (fun j => S_hnum u j q) i + u (hx i q) = sm (fun j => S_hnum u j q) (i + 1) from by rw [sm, S_hnum, if_neg (by omega), if_neg (by omega)]]
      refine V_istore_n (i := 2) dX8_sum_22 rfl (by decide) ?_
      refine V_iinc (i := 3) dX8_sum_23 rfl (inc1 _) (by decide) ?_
      refine V_goto (tgt := 4) dX8_sum_26 (by decide) ?_
      refine V.fin [2, 3, 1, 0] rfl (congrArg (HP A) ?_) k9
      rfl
  refine V_iconst (v := 0) dX8_sum_0 (by decide) ?_
  refine V_istore_n (i := 2) dX8_sum_1 rfl (by decide) ?_
  refine V_iconst (v := nI 0) dX8_sum_2 (by decide) ?_
  refine V_istore_n (i := 3) dX8_sum_3 rfl (by decide) ?_
  exact V.fin [2, 3, 1, 0] rfl rfl (loop nh 0 (by omega))

set_option maxHeartbeats 4000000 in
set_option maxRecDepth 100000 in
theorem t_X8_hinders {D : va_G} {s0 : State} {l : Launch} {B : Nat} {A : AT} {σ : Sg} (hA : AOK B A) {P : Int32 × Int32} {u : Nat → Int32} {c : Bool} {a b : Int32} : Tri D s0 l yX8_hinders cX8_hinders 4 (none) 0 0 0 [.ref (A 20 0 0), .int (bi c), .int a, .int b] (HP A (rs σ P u)) (fun r G' => r = none ∧ G' = HP A (rs σ (hn P c a b) u)) noX := by
  refine Tri.ofV (own := RX8) (mn := "hinders") (by decide +kernel) rfl rfl (Nat.le_of_ble_eq_true rfl) ?_
  refine V_iload_n (i := 1) dX8_hinders_0 rfl rfl ?_
  refine V_if_eq (tgt := 21) dX8_hinders_1 (by decide) (fun h1 => ?_) (fun h1 => ?_)
  · replace h1 := bi_0.mp h1
    refine V_vret dX8_hinders_21 rfl (Nat.le_of_ble_eq_true rfl) (Nat.le_of_ble_eq_true rfl) ?_
    refine ⟨rfl, congrArg (HP A) ?_⟩
    first
      | (rw [hn, if_neg (fun q => by rw [h1] at q; exact absurd q.1 (by decide))]; done)
      | (rw [hn, if_neg (fun q => h8 q.2)]; done)
      | (rw [hn, if_pos ⟨h1, h8⟩]; exact rs_P (Q := (a, b)))
  · replace h1 := bi_1.mp h1
    refine V_aload_n (i := 0) dX8_hinders_4 rfl rfl ?_
    refine V_getf fl_X8_41 dX8_hinders_5 (hp20 hA) rfl ?_
    refine V_if_ne (tgt := 21) dX8_hinders_8 (by decide) (fun h8 => ?_) (fun h8 => ?_)
    · rw [rs_15] at h8
      refine V_vret dX8_hinders_21 rfl (Nat.le_of_ble_eq_true rfl) (Nat.le_of_ble_eq_true rfl) ?_
      refine ⟨rfl, congrArg (HP A) ?_⟩
      first
        | (rw [hn, if_neg (fun q => by rw [h1] at q; exact absurd q.1 (by decide))]; done)
        | (rw [hn, if_neg (fun q => h8 q.2)]; done)
        | (rw [hn, if_pos ⟨h1, h8⟩]; exact rs_P (Q := (a, b)))
    · rw [rs_15] at h8
      refine V_aload_n (i := 0) dX8_hinders_11 rfl rfl ?_
      refine V_iload_n (i := 2) dX8_hinders_12 rfl rfl ?_
      refine VP_20_15 fl_X8_41 dX8_hinders_13 hA ?_
      refine V_aload_n (i := 0) dX8_hinders_16 rfl rfl ?_
      refine V_iload_n (i := 3) dX8_hinders_17 rfl rfl ?_
      refine VP_20_16 fl_X8_44 dX8_hinders_18 hA ?_
      refine V_vret dX8_hinders_21 rfl (Nat.le_of_ble_eq_true rfl) (Nat.le_of_ble_eq_true rfl) ?_
      refine ⟨rfl, congrArg (HP A) ?_⟩
      first
        | (rw [hn, if_neg (fun q => by rw [h1] at q; exact absurd q.1 (by decide))]; done)
        | (rw [hn, if_neg (fun q => h8 q.2)]; done)
        | (rw [hn, if_pos ⟨h1, h8⟩]; exact rs_P (Q := (a, b)))

set_option maxHeartbeats 4000000 in
set_option maxRecDepth 100000 in
theorem t_X8_copies_21_22 {D : va_G} {s0 : State} {l : Launch} {B : Nat} {A : AT} {σ : Sg} (hA : AOK B A) {a b : Nat} (ha : a + 102 ≤ 102) (hb : b + 102 ≤ 102) : Tri D s0 l yX8_copies cX8_copies 5 (none) 0 0 0 [.ref (A 21 0 0), .int (nI a), .ref (A 22 0 0), .int (nI b)] (HP A σ) (fun r G' => r = none ∧ G' = HP A (row σ 22 0 (blit (σ.1 22 0) b (σ.1 21 0) a 102))) noX := by
  refine Tri.ofV (own := RX8) (mn := "copies") (by decide +kernel) rfl rfl (Nat.le_of_ble_eq_true rfl) ?_
  have loop : ∀ n i : Nat, i + n = 102 → V D s0 RX8 "copies" cX8_copies 5 (none) [] l (rmd 0 0 0) (Zm D s0 0 0 (fun r G' => r = none ∧ G' = HP A (row σ 22 0 (blit (σ.1 22 0) b (σ.1 21 0) a 102))) noX) 3 [(0, .ref (A 21 0 0)), (1, .int (nI a)), (2, .ref (A 22 0 0)), (3, .int (nI b)), (4, .int (nI i))] [] (HP A (row σ 22 0 (blit (σ.1 22 0) b (σ.1 21 0) a i))) 0 0 := by
    intro n
    induction n with
    | zero =>
      intro i hi9
      obtain rfl : 102 = i := by omega
      refine V_iload (i := 4) dX8_copies_3 rfl ?_
      refine V_bipush (v := nI 102) dX8_copies_5 (by decide) ?_
      refine V_icmp_ge (tgt := 28) dX8_copies_7 (by decide) (fun _ => ?_) (fun h7 => by first | exact absurd (nI_le (Nat.le_refl 102) (by omega)) h7 | exact absurd h7 (nI_le (Nat.le_refl 102) (by omega)))
      refine V_vret dX8_copies_28 rfl (Nat.le_of_ble_eq_true rfl) (Nat.le_of_ble_eq_true rfl) ?_
      exact ⟨rfl, rfl⟩
    | succ n ih =>
      intro i hi9
      have k9 := ih (i + 1) (by omega)
      have hi8 : i < 102 := by omega
      refine V_iload (i := 4) dX8_copies_3 rfl ?_
      refine V_bipush (v := nI 102) dX8_copies_5 (by decide) ?_
      refine V_icmp_ge (tgt := 28) dX8_copies_7 (by decide) (fun h7 => by first | exact absurd h7 (nI_ge (by omega) (by omega)) | exact absurd (nI_ge (by omega) (by omega)) h7) (fun _ => ?_)
      refine V_aload_n (i := 2) dX8_copies_10 rfl rfl ?_
      refine V_iload_n (i := 3) dX8_copies_11 rfl rfl ?_
      refine V_iload (i := 4) dX8_copies_12 rfl ?_
      refine V_iadd dX8_copies_14 ?_
      refine V_aload_n (i := 0) dX8_copies_15 rfl rfl ?_
      refine V_iload_n (i := 1) dX8_copies_16 rfl rfl ?_
      refine V_iload (i := 4) dX8_copies_17 rfl ?_
      refine V_iadd dX8_copies_19 ?_
      refine V_iald9 dX8_copies_20 (hp21 hA) (nI_add _ _) (by omega) (by decide) (congrArg Value.int (congrFun (row_ne (by decide)) _)) ?_
      refine VA_22 dX8_copies_21 hA (nI_add _ _) (by omega) ?_
      refine V_iinc (i := 4) dX8_copies_22 rfl (inc1 _) (by decide) ?_
      refine V_goto (tgt := 3) dX8_copies_25 (by decide) ?_
      refine V.fin [1, 2, 3, 4, 0] rfl (congrArg (HP A) ?_) k9
      rw [w3_row, row_row, row_at, blit_s]
  refine V_iconst (v := nI 0) dX8_copies_0 (by decide) ?_
  refine V_istore (i := 4) dX8_copies_1 (by decide) ?_
  exact V.fin [1, 2, 3, 4, 0] rfl (congrArg (HP A) (by rw [blit_0, row_self])) (loop 102 0 (by omega))

set_option maxHeartbeats 4000000 in
set_option maxRecDepth 100000 in
theorem t_X8_copies_22_24 {D : va_G} {s0 : State} {l : Launch} {B : Nat} {A : AT} {σ : Sg} (hA : AOK B A) {a b : Nat} (ha : a + 102 ≤ 102) (hb : b + 102 ≤ 816) : Tri D s0 l yX8_copies cX8_copies 5 (none) 0 0 0 [.ref (A 22 0 0), .int (nI a), .ref (A 24 0 0), .int (nI b)] (HP A σ) (fun r G' => r = none ∧ G' = HP A (row σ 24 0 (blit (σ.1 24 0) b (σ.1 22 0) a 102))) noX := by
  refine Tri.ofV (own := RX8) (mn := "copies") (by decide +kernel) rfl rfl (Nat.le_of_ble_eq_true rfl) ?_
  have loop : ∀ n i : Nat, i + n = 102 → V D s0 RX8 "copies" cX8_copies 5 (none) [] l (rmd 0 0 0) (Zm D s0 0 0 (fun r G' => r = none ∧ G' = HP A (row σ 24 0 (blit (σ.1 24 0) b (σ.1 22 0) a 102))) noX) 3 [(0, .ref (A 22 0 0)), (1, .int (nI a)), (2, .ref (A 24 0 0)), (3, .int (nI b)), (4, .int (nI i))] [] (HP A (row σ 24 0 (blit (σ.1 24 0) b (σ.1 22 0) a i))) 0 0 := by
    intro n
    induction n with
    | zero =>
      intro i hi9
      obtain rfl : 102 = i := by omega
      refine V_iload (i := 4) dX8_copies_3 rfl ?_
      refine V_bipush (v := nI 102) dX8_copies_5 (by decide) ?_
      refine V_icmp_ge (tgt := 28) dX8_copies_7 (by decide) (fun _ => ?_) (fun h7 => by first | exact absurd (nI_le (Nat.le_refl 102) (by omega)) h7 | exact absurd h7 (nI_le (Nat.le_refl 102) (by omega)))
      refine V_vret dX8_copies_28 rfl (Nat.le_of_ble_eq_true rfl) (Nat.le_of_ble_eq_true rfl) ?_
      exact ⟨rfl, rfl⟩
    | succ n ih =>
      intro i hi9
      have k9 := ih (i + 1) (by omega)
      have hi8 : i < 102 := by omega
      refine V_iload (i := 4) dX8_copies_3 rfl ?_
      refine V_bipush (v := nI 102) dX8_copies_5 (by decide) ?_
      refine V_icmp_ge (tgt := 28) dX8_copies_7 (by decide) (fun h7 => by first | exact absurd h7 (nI_ge (by omega) (by omega)) | exact absurd (nI_ge (by omega) (by omega)) h7) (fun _ => ?_)
      refine V_aload_n (i := 2) dX8_copies_10 rfl rfl ?_
      refine V_iload_n (i := 3) dX8_copies_11 rfl rfl ?_
      refine V_iload (i := 4) dX8_copies_12 rfl ?_
      refine V_iadd dX8_copies_14 ?_
      refine V_aload_n (i := 0) dX8_copies_15 rfl rfl ?_
      refine V_iload_n (i := 1) dX8_copies_16 rfl rfl ?_
      refine V_iload (i := 4) dX8_copies_17 rfl ?_
      refine V_iadd dX8_copies_19 ?_
      refine V_iald9 dX8_copies_20 (hp22 hA) (nI_add _ _) (by omega) (by decide) (congrArg Value.int (congrFun (row_ne (by decide)) _)) ?_
      refine VA_24 dX8_copies_21 hA (nI_add _ _) (by omega) ?_
      refine V_iinc (i := 4) dX8_copies_22 rfl (inc1 _) (by decide) ?_
      refine V_goto (tgt := 3) dX8_copies_25 (by decide) ?_
      refine V.fin [1, 2, 3, 4, 0] rfl (congrArg (HP A) ?_) k9
      rw [w3_row, row_row, row_at, blit_s]
  refine V_iconst (v := nI 0) dX8_copies_0 (by decide) ?_
  refine V_istore (i := 4) dX8_copies_1 (by decide) ?_
  exact V.fin [1, 2, 3, 4, 0] rfl (congrArg (HP A) (by rw [blit_0, row_self])) (loop 102 0 (by omega))

set_option maxHeartbeats 4000000 in
set_option maxRecDepth 100000 in
theorem t_X8_copies_22_21 {D : va_G} {s0 : State} {l : Launch} {B : Nat} {A : AT} {σ : Sg} (hA : AOK B A) {a b : Nat} (ha : a + 102 ≤ 102) (hb : b + 102 ≤ 102) : Tri D s0 l yX8_copies cX8_copies 5 (none) 0 0 0 [.ref (A 22 0 0), .int (nI a), .ref (A 21 0 0), .int (nI b)] (HP A σ) (fun r G' => r = none ∧ G' = HP A (row σ 21 0 (blit (σ.1 21 0) b (σ.1 22 0) a 102))) noX := by
  refine Tri.ofV (own := RX8) (mn := "copies") (by decide +kernel) rfl rfl (Nat.le_of_ble_eq_true rfl) ?_
  have loop : ∀ n i : Nat, i + n = 102 → V D s0 RX8 "copies" cX8_copies 5 (none) [] l (rmd 0 0 0) (Zm D s0 0 0 (fun r G' => r = none ∧ G' = HP A (row σ 21 0 (blit (σ.1 21 0) b (σ.1 22 0) a 102))) noX) 3 [(0, .ref (A 22 0 0)), (1, .int (nI a)), (2, .ref (A 21 0 0)), (3, .int (nI b)), (4, .int (nI i))] [] (HP A (row σ 21 0 (blit (σ.1 21 0) b (σ.1 22 0) a i))) 0 0 := by
    intro n
    induction n with
    | zero =>
      intro i hi9
      obtain rfl : 102 = i := by omega
      refine V_iload (i := 4) dX8_copies_3 rfl ?_
      refine V_bipush (v := nI 102) dX8_copies_5 (by decide) ?_
      refine V_icmp_ge (tgt := 28) dX8_copies_7 (by decide) (fun _ => ?_) (fun h7 => by first | exact absurd (nI_le (Nat.le_refl 102) (by omega)) h7 | exact absurd h7 (nI_le (Nat.le_refl 102) (by omega)))
      refine V_vret dX8_copies_28 rfl (Nat.le_of_ble_eq_true rfl) (Nat.le_of_ble_eq_true rfl) ?_
      exact ⟨rfl, rfl⟩
    | succ n ih =>
      intro i hi9
      have k9 := ih (i + 1) (by omega)
      have hi8 : i < 102 := by omega
      refine V_iload (i := 4) dX8_copies_3 rfl ?_
      refine V_bipush (v := nI 102) dX8_copies_5 (by decide) ?_
      refine V_icmp_ge (tgt := 28) dX8_copies_7 (by decide) (fun h7 => by first | exact absurd h7 (nI_ge (by omega) (by omega)) | exact absurd (nI_ge (by omega) (by omega)) h7) (fun _ => ?_)
      refine V_aload_n (i := 2) dX8_copies_10 rfl rfl ?_
      refine V_iload_n (i := 3) dX8_copies_11 rfl rfl ?_
      refine V_iload (i := 4) dX8_copies_12 rfl ?_
      refine V_iadd dX8_copies_14 ?_
      refine V_aload_n (i := 0) dX8_copies_15 rfl rfl ?_
      refine V_iload_n (i := 1) dX8_copies_16 rfl rfl ?_
      refine V_iload (i := 4) dX8_copies_17 rfl ?_
      refine V_iadd dX8_copies_19 ?_
      refine V_iald9 dX8_copies_20 (hp22 hA) (nI_add _ _) (by omega) (by decide) (congrArg Value.int (congrFun (row_ne (by decide)) _)) ?_
      refine VA_21 dX8_copies_21 hA (nI_add _ _) (by omega) ?_
      refine V_iinc (i := 4) dX8_copies_22 rfl (inc1 _) (by decide) ?_
      refine V_goto (tgt := 3) dX8_copies_25 (by decide) ?_
      refine V.fin [1, 2, 3, 4, 0] rfl (congrArg (HP A) ?_) k9
      rw [w3_row, row_row, row_at, blit_s]
  refine V_iconst (v := nI 0) dX8_copies_0 (by decide) ?_
  refine V_istore (i := 4) dX8_copies_1 (by decide) ?_
  exact V.fin [1, 2, 3, 4, 0] rfl (congrArg (HP A) (by rw [blit_0, row_self])) (loop 102 0 (by omega))

set_option maxHeartbeats 4000000 in
set_option maxRecDepth 100000 in
theorem t_X8_copies_24_21 {D : va_G} {s0 : State} {l : Launch} {B : Nat} {A : AT} {σ : Sg} (hA : AOK B A) {a b : Nat} (ha : a + 102 ≤ 816) (hb : b + 102 ≤ 102) : Tri D s0 l yX8_copies cX8_copies 5 (none) 0 0 0 [.ref (A 24 0 0), .int (nI a), .ref (A 21 0 0), .int (nI b)] (HP A σ) (fun r G' => r = none ∧ G' = HP A (row σ 21 0 (blit (σ.1 21 0) b (σ.1 24 0) a 102))) noX := by
  refine Tri.ofV (own := RX8) (mn := "copies") (by decide +kernel) rfl rfl (Nat.le_of_ble_eq_true rfl) ?_
  have loop : ∀ n i : Nat, i + n = 102 → V D s0 RX8 "copies" cX8_copies 5 (none) [] l (rmd 0 0 0) (Zm D s0 0 0 (fun r G' => r = none ∧ G' = HP A (row σ 21 0 (blit (σ.1 21 0) b (σ.1 24 0) a 102))) noX) 3 [(0, .ref (A 24 0 0)), (1, .int (nI a)), (2, .ref (A 21 0 0)), (3, .int (nI b)), (4, .int (nI i))] [] (HP A (row σ 21 0 (blit (σ.1 21 0) b (σ.1 24 0) a i))) 0 0 := by
    intro n
    induction n with
    | zero =>
      intro i hi9
      obtain rfl : 102 = i := by omega
      refine V_iload (i := 4) dX8_copies_3 rfl ?_
      refine V_bipush (v := nI 102) dX8_copies_5 (by decide) ?_
      refine V_icmp_ge (tgt := 28) dX8_copies_7 (by decide) (fun _ => ?_) (fun h7 => by first | exact absurd (nI_le (Nat.le_refl 102) (by omega)) h7 | exact absurd h7 (nI_le (Nat.le_refl 102) (by omega)))
      refine V_vret dX8_copies_28 rfl (Nat.le_of_ble_eq_true rfl) (Nat.le_of_ble_eq_true rfl) ?_
      exact ⟨rfl, rfl⟩
    | succ n ih =>
      intro i hi9
      have k9 := ih (i + 1) (by omega)
      have hi8 : i < 102 := by omega
      refine V_iload (i := 4) dX8_copies_3 rfl ?_
      refine V_bipush (v := nI 102) dX8_copies_5 (by decide) ?_
      refine V_icmp_ge (tgt := 28) dX8_copies_7 (by decide) (fun h7 => by first | exact absurd h7 (nI_ge (by omega) (by omega)) | exact absurd (nI_ge (by omega) (by omega)) h7) (fun _ => ?_)
      refine V_aload_n (i := 2) dX8_copies_10 rfl rfl ?_
      refine V_iload_n (i := 3) dX8_copies_11 rfl rfl ?_
      refine V_iload (i := 4) dX8_copies_12 rfl ?_
      refine V_iadd dX8_copies_14 ?_
      refine V_aload_n (i := 0) dX8_copies_15 rfl rfl ?_
      refine V_iload_n (i := 1) dX8_copies_16 rfl rfl ?_
      refine V_iload (i := 4) dX8_copies_17 rfl ?_
      refine V_iadd dX8_copies_19 ?_
      refine V_iald9 dX8_copies_20 (hp24 hA) (nI_add _ _) (by omega) (by decide) (congrArg Value.int (congrFun (row_ne (by decide)) _)) ?_
      refine VA_21 dX8_copies_21 hA (nI_add _ _) (by omega) ?_
      refine V_iinc (i := 4) dX8_copies_22 rfl (inc1 _) (by decide) ?_
      refine V_goto (tgt := 3) dX8_copies_25 (by decide) ?_
      refine V.fin [1, 2, 3, 4, 0] rfl (congrArg (HP A) ?_) k9
      rw [w3_row, row_row, row_at, blit_s]
  refine V_iconst (v := nI 0) dX8_copies_0 (by decide) ?_
  refine V_istore (i := 4) dX8_copies_1 (by decide) ?_
  exact V.fin [1, 2, 3, 4, 0] rfl (congrArg (HP A) (by rw [blit_0, row_self])) (loop 102 0 (by omega))

set_option maxHeartbeats 4000000 in
set_option maxRecDepth 100000 in
theorem t_X8_copies_21_23 {D : va_G} {s0 : State} {l : Launch} {B : Nat} {A : AT} {σ : Sg} (hA : AOK B A) {a b : Nat} (ha : a + 102 ≤ 102) (hb : b + 102 ≤ 102) : Tri D s0 l yX8_copies cX8_copies 5 (none) 0 0 0 [.ref (A 21 0 0), .int (nI a), .ref (A 23 0 0), .int (nI b)] (HP A σ) (fun r G' => r = none ∧ G' = HP A (row σ 23 0 (blit (σ.1 23 0) b (σ.1 21 0) a 102))) noX := by
  refine Tri.ofV (own := RX8) (mn := "copies") (by decide +kernel) rfl rfl (Nat.le_of_ble_eq_true rfl) ?_
  have loop : ∀ n i : Nat, i + n = 102 → V D s0 RX8 "copies" cX8_copies 5 (none) [] l (rmd 0 0 0) (Zm D s0 0 0 (fun r G' => r = none ∧ G' = HP A (row σ 23 0 (blit (σ.1 23 0) b (σ.1 21 0) a 102))) noX) 3 [(0, .ref (A 21 0 0)), (1, .int (nI a)), (2, .ref (A 23 0 0)), (3, .int (nI b)), (4, .int (nI i))] [] (HP A (row σ 23 0 (blit (σ.1 23 0) b (σ.1 21 0) a i))) 0 0 := by
    intro n
    induction n with
    | zero =>
      intro i hi9
      obtain rfl : 102 = i := by omega
      refine V_iload (i := 4) dX8_copies_3 rfl ?_
      refine V_bipush (v := nI 102) dX8_copies_5 (by decide) ?_
      refine V_icmp_ge (tgt := 28) dX8_copies_7 (by decide) (fun _ => ?_) (fun h7 => by first | exact absurd (nI_le (Nat.le_refl 102) (by omega)) h7 | exact absurd h7 (nI_le (Nat.le_refl 102) (by omega)))
      refine V_vret dX8_copies_28 rfl (Nat.le_of_ble_eq_true rfl) (Nat.le_of_ble_eq_true rfl) ?_
      exact ⟨rfl, rfl⟩
    | succ n ih =>
      intro i hi9
      have k9 := ih (i + 1) (by omega)
      have hi8 : i < 102 := by omega
      refine V_iload (i := 4) dX8_copies_3 rfl ?_
      refine V_bipush (v := nI 102) dX8_copies_5 (by decide) ?_
      refine V_icmp_ge (tgt := 28) dX8_copies_7 (by decide) (fun h7 => by first | exact absurd h7 (nI_ge (by omega) (by omega)) | exact absurd (nI_ge (by omega) (by omega)) h7) (fun _ => ?_)
      refine V_aload_n (i := 2) dX8_copies_10 rfl rfl ?_
      refine V_iload_n (i := 3) dX8_copies_11 rfl rfl ?_
      refine V_iload (i := 4) dX8_copies_12 rfl ?_
      refine V_iadd dX8_copies_14 ?_
      refine V_aload_n (i := 0) dX8_copies_15 rfl rfl ?_
      refine V_iload_n (i := 1) dX8_copies_16 rfl rfl ?_
      refine V_iload (i := 4) dX8_copies_17 rfl ?_
      refine V_iadd dX8_copies_19 ?_
      refine V_iald9 dX8_copies_20 (hp21 hA) (nI_add _ _) (by omega) (by decide) (congrArg Value.int (congrFun (row_ne (by decide)) _)) ?_
      refine VA_23 dX8_copies_21 hA (nI_add _ _) (by omega) ?_
      refine V_iinc (i := 4) dX8_copies_22 rfl (inc1 _) (by decide) ?_
      refine V_goto (tgt := 3) dX8_copies_25 (by decide) ?_
      refine V.fin [1, 2, 3, 4, 0] rfl (congrArg (HP A) ?_) k9
      rw [w3_row, row_row, row_at, blit_s]
  refine V_iconst (v := nI 0) dX8_copies_0 (by decide) ?_
  refine V_istore (i := 4) dX8_copies_1 (by decide) ?_
  exact V.fin [1, 2, 3, 4, 0] rfl (congrArg (HP A) (by rw [blit_0, row_self])) (loop 102 0 (by omega))

set_option maxHeartbeats 4000000 in
set_option maxRecDepth 100000 in
theorem t_X8_copies_23_21 {D : va_G} {s0 : State} {l : Launch} {B : Nat} {A : AT} {σ : Sg} (hA : AOK B A) {a b : Nat} (ha : a + 102 ≤ 102) (hb : b + 102 ≤ 102) : Tri D s0 l yX8_copies cX8_copies 5 (none) 0 0 0 [.ref (A 23 0 0), .int (nI a), .ref (A 21 0 0), .int (nI b)] (HP A σ) (fun r G' => r = none ∧ G' = HP A (row σ 21 0 (blit (σ.1 21 0) b (σ.1 23 0) a 102))) noX := by
  refine Tri.ofV (own := RX8) (mn := "copies") (by decide +kernel) rfl rfl (Nat.le_of_ble_eq_true rfl) ?_
  have loop : ∀ n i : Nat, i + n = 102 → V D s0 RX8 "copies" cX8_copies 5 (none) [] l (rmd 0 0 0) (Zm D s0 0 0 (fun r G' => r = none ∧ G' = HP A (row σ 21 0 (blit (σ.1 21 0) b (σ.1 23 0) a 102))) noX) 3 [(0, .ref (A 23 0 0)), (1, .int (nI a)), (2, .ref (A 21 0 0)), (3, .int (nI b)), (4, .int (nI i))] [] (HP A (row σ 21 0 (blit (σ.1 21 0) b (σ.1 23 0) a i))) 0 0 := by
    intro n
    induction n with
    | zero =>
      intro i hi9
      obtain rfl : 102 = i := by omega
      refine V_iload (i := 4) dX8_copies_3 rfl ?_
      refine V_bipush (v := nI 102) dX8_copies_5 (by decide) ?_
      refine V_icmp_ge (tgt := 28) dX8_copies_7 (by decide) (fun _ => ?_) (fun h7 => by first | exact absurd (nI_le (Nat.le_refl 102) (by omega)) h7 | exact absurd h7 (nI_le (Nat.le_refl 102) (by omega)))
      refine V_vret dX8_copies_28 rfl (Nat.le_of_ble_eq_true rfl) (Nat.le_of_ble_eq_true rfl) ?_
      exact ⟨rfl, rfl⟩
    | succ n ih =>
      intro i hi9
      have k9 := ih (i + 1) (by omega)
      have hi8 : i < 102 := by omega
      refine V_iload (i := 4) dX8_copies_3 rfl ?_
      refine V_bipush (v := nI 102) dX8_copies_5 (by decide) ?_
      refine V_icmp_ge (tgt := 28) dX8_copies_7 (by decide) (fun h7 => by first | exact absurd h7 (nI_ge (by omega) (by omega)) | exact absurd (nI_ge (by omega) (by omega)) h7) (fun _ => ?_)
      refine V_aload_n (i := 2) dX8_copies_10 rfl rfl ?_
      refine V_iload_n (i := 3) dX8_copies_11 rfl rfl ?_
      refine V_iload (i := 4) dX8_copies_12 rfl ?_
      refine V_iadd dX8_copies_14 ?_
      refine V_aload_n (i := 0) dX8_copies_15 rfl rfl ?_
      refine V_iload_n (i := 1) dX8_copies_16 rfl rfl ?_
      refine V_iload (i := 4) dX8_copies_17 rfl ?_
      refine V_iadd dX8_copies_19 ?_
      refine V_iald9 dX8_copies_20 (hp23 hA) (nI_add _ _) (by omega) (by decide) (congrArg Value.int (congrFun (row_ne (by decide)) _)) ?_
      refine VA_21 dX8_copies_21 hA (nI_add _ _) (by omega) ?_
      refine V_iinc (i := 4) dX8_copies_22 rfl (inc1 _) (by decide) ?_
      refine V_goto (tgt := 3) dX8_copies_25 (by decide) ?_
      refine V.fin [1, 2, 3, 4, 0] rfl (congrArg (HP A) ?_) k9
      rw [w3_row, row_row, row_at, blit_s]
  refine V_iconst (v := nI 0) dX8_copies_0 (by decide) ?_
  refine V_istore (i := 4) dX8_copies_1 (by decide) ?_
  exact V.fin [1, 2, 3, 4, 0] rfl (congrArg (HP A) (by rw [blit_0, row_self])) (loop 102 0 (by omega))

def beg (σ : Sg) : Sg := w3 (row σ 22 0 (blit (σ.1 22 0) 0 (σ.1 21 0) 0 102)) 20 0 15 0

set_option maxHeartbeats 4000000 in
set_option maxRecDepth 100000 in
theorem t_X8_begins {D : va_G} {s0 : State} {l : Launch} {B : Nat} {A : AT} {σ : Sg} (hA : AOK B A) : Tri D s0 l yX8_begins cX8_begins 1 (none) 1 0 0 [.ref (A 20 0 0)] (HP A σ) (fun r G' => r = none ∧ G' = HP A (beg σ)) noX := by
  refine Tri.ofV (own := RX8) (mn := "begins") (by decide +kernel) rfl rfl (Nat.le_of_ble_eq_true rfl) ?_
  refine V_aload_n (i := 0) dX8_begins_0 rfl rfl ?_
  refine V_getf fl_X8_9 dX8_begins_1 (hp20 hA) rfl ?_
  refine V_iconst (v := nI 0) dX8_begins_4 (by decide) ?_
  refine V_aload_n (i := 0) dX8_begins_5 rfl rfl ?_
  refine V_getf fl_X8_13 dX8_begins_6 (hp20 hA) rfl ?_
  refine V_iconst (v := nI 0) dX8_begins_9 (by decide) ?_
  refine Cs0_4 (d := 1) cs_X8_47 dX8_begins_10 (t_X8_copies_21_22 hA (by decide) (by decide)) (Nat.le_of_ble_eq_true rfl) ⟨Nat.le_refl _, Nat.le_refl _⟩ (by decide) ⟨Nat.le_of_ble_eq_true rfl, Nat.le_of_ble_eq_true rfl⟩ ?_
  refine V_aload_n (i := 0) dX8_begins_13 rfl rfl ?_
  refine V_iconst (v := 0) dX8_begins_14 (by decide) ?_
  refine VP_20_15 fl_X8_41 dX8_begins_15 hA ?_
  refine V_vret dX8_begins_18 rfl (Nat.le_of_ble_eq_true rfl) (Nat.le_of_ble_eq_true rfl) ?_
  exact ⟨rfl, rfl⟩

/-- the history, a place lower -/
def shn (v : Nat → Int32) (i : Nat) : Nat → Int32 := fun j => if j < i then v (j + 102) else v j
theorem shn_0 {v : Nat → Int32} : shn v 0 = v := funext fun j => if_neg (by omega)
theorem shn_s {v : Nat → Int32} {i : Nat} : up (shn v i) i (shn v i (i + 102)) = shn v (i + 1) := by
  funext j
  unfold up shn
  by_cases h : j = i
  · rw [if_pos h, if_neg (by omega), if_pos (by omega), h]
  · rw [if_neg h]
    by_cases h2 : j < i
    · rw [if_pos h2, if_pos (by omega)]
    · rw [if_neg h2, if_neg (by omega)]
def pushH (h : Nat → Int32) (cn : Nat) (v : Nat → Int32) : Nat → Int32 := if cn = 8 then blit (shn h 714) 714 v 0 102 else blit h (cn * 102) v 0 102
def upN (cn : Nat) : Nat := if cn = 8 then 8 else cn + 1
def remS (σ : Sg) (cn : Nat) (v : Nat → Int32) : Sg := w3 (row σ 24 0 (pushH (σ.1 24 0) cn v)) 20 0 5 (nI (upN cn))

set_option maxHeartbeats 4000000 in
set_option maxRecDepth 100000 in
theorem t_X8_remembers {D : va_G} {s0 : State} {l : Launch} {B : Nat} {A : AT} {σ : Sg} (hA : AOK B A) {cn : Nat} (hcn : σ.1 20 0 5 = nI cn) (hc8 : cn ≤ 8) : Tri D s0 l yX8_remembers cX8_remembers 2 (none) 1 0 0 [.ref (A 20 0 0)] (HP A σ) (fun r G' => r = none ∧ G' = HP A (remS σ cn (σ.1 22 0))) noX := by
  refine Tri.ofV (own := RX8) (mn := "remembers") (by decide +kernel) rfl rfl (Nat.le_of_ble_eq_true rfl) ?_
  by_cases hc : cn = 8
  ·
    have loop : ∀ n i : Nat, i + n = 714 → V D s0 RX8 "remembers" cX8_remembers 2 (none) [] l (rmd 1 0 0) (Zm D s0 0 0 (fun r G' => r = none ∧ G' = HP A (remS σ cn (σ.1 22 0))) noX) 11 [(0, .ref (A 20 0 0)), (1, .int (nI i))] [] (HP A (row σ 24 0 (shn (σ.1 24 0) i))) 0 0 := by
      intro n
      induction n with
      | zero =>
        intro i hi9
        obtain rfl : 714 = i := by omega
        refine V_iload_n (i := 1) dX8_remembers_11 rfl rfl ?_
        refine V_sipush (v := nI 714) dX8_remembers_12 (by decide) ?_
        refine V_icmp_ge (tgt := 39) dX8_remembers_15 (by decide) (fun _ => ?_) (fun h15 => by first | exact absurd (nI_le (Nat.le_refl 714) (by omega)) h15 | exact absurd h15 (nI_le (Nat.le_refl 714) (by omega)))
        refine V_aload_n (i := 0) dX8_remembers_39 rfl rfl ?_
        refine V_dup dX8_remembers_40 rfl ?_
        refine V_getf fl_X8_51 dX8_remembers_41 (hp20 hA) rfl ?_
        refine V_iconst (v := 1) dX8_remembers_44 (by decide) ?_
        refine V_isub dX8_remembers_45 ?_
        rw [show (row σ 24 0 (shn (σ.1 24 0) 714)).1 20 0 5 - 1 = nI 7 from by rw [row_ne (by omega), hcn, hc]; rfl]
        refine VP_20_5 fl_X8_51 dX8_remembers_46 hA ?_
        refine V_aload_n (i := 0) dX8_remembers_49 rfl rfl ?_
        refine V_getf fl_X8_13 dX8_remembers_50 (hp20 hA) rfl ?_
        refine V_iconst (v := nI 0) dX8_remembers_53 (by decide) ?_
        refine V_aload_n (i := 0) dX8_remembers_54 rfl rfl ?_
        refine V_getf fl_X8_19 dX8_remembers_55 (hp20 hA) rfl ?_
        refine V_aload_n (i := 0) dX8_remembers_58 rfl rfl ?_
        refine V_getf fl_X8_51 dX8_remembers_59 (hp20 hA) rfl ?_
        refine V_bipush (v := nI 102) dX8_remembers_62 (by decide) ?_
        refine V_imul dX8_remembers_64 ?_
        rw [show (w3 (row σ 24 0 (shn (σ.1 24 0) 714)) 20 0 5 (nI 7)).1 20 0 5 * nI 102 = nI 714 from by rw [w3_eq]; rfl]
        refine Cs0_4 (d := 1) cs_X8_47 dX8_remembers_65 (t_X8_copies_22_24 hA (by decide) (by decide)) (Nat.le_of_ble_eq_true rfl) ⟨Nat.le_refl _, Nat.le_refl _⟩ (by decide) ⟨Nat.le_of_ble_eq_true rfl, Nat.le_of_ble_eq_true rfl⟩ ?_
        refine V_aload_n (i := 0) dX8_remembers_68 rfl rfl ?_
        refine V_dup dX8_remembers_69 rfl ?_
        refine V_getf fl_X8_51 dX8_remembers_70 (hp20 hA) rfl ?_
        refine V_iconst (v := 1) dX8_remembers_73 (by decide) ?_
        refine V_iadd dX8_remembers_74 ?_
        rw [show (row (w3 (row σ 24 0 (shn (σ.1 24 0) 714)) 20 0 5 (nI 7)) 24 0 (blit ((w3 (row σ 24 0 (shn (σ.1 24 0) 714)) 20 0 5 (nI 7)).1 24 0) 714 ((w3 (row σ 24 0 (shn (σ.1 24 0) 714)) 20 0 5 (nI 7)).1 22 0) 0 102)).1 20 0 5 + 1 = nI 8 from by rw [row_ne (by omega), w3_eq]; rfl]
        refine VP_20_5 fl_X8_51 dX8_remembers_75 hA ?_
        refine V_vret dX8_remembers_78 rfl (Nat.le_of_ble_eq_true rfl) (Nat.le_of_ble_eq_true rfl) ?_
        refine ⟨rfl, congrArg (HP A) ?_⟩
        subst hc
        refine Prod.ext (funext fun a => funext fun b => funext fun c => ?_) rfl
        simp only [remS, pushH, upN, row, w3, if_true]
        grind
      | succ n ih =>
        intro i hi9
        have k9 := ih (i + 1) (by omega)
        have hi8 : i < 714 := by omega
        refine V_iload_n (i := 1) dX8_remembers_11 rfl rfl ?_
        refine V_sipush (v := nI 714) dX8_remembers_12 (by decide) ?_
        refine V_icmp_ge (tgt := 39) dX8_remembers_15 (by decide) (fun h15 => by first | exact absurd h15 (nI_ge (by omega) (by omega)) | exact absurd (nI_ge (by omega) (by omega)) h15) (fun _ => ?_)
        refine V_aload_n (i := 0) dX8_remembers_18 rfl rfl ?_
        refine V_getf fl_X8_19 dX8_remembers_19 (hp20 hA) rfl ?_
        refine V_iload_n (i := 1) dX8_remembers_22 rfl rfl ?_
        refine V_aload_n (i := 0) dX8_remembers_23 rfl rfl ?_
        refine V_getf fl_X8_19 dX8_remembers_24 (hp20 hA) rfl ?_
        refine V_iload_n (i := 1) dX8_remembers_27 rfl rfl ?_
        refine V_bipush (v := nI 102) dX8_remembers_28 (by decide) ?_
        refine V_iadd dX8_remembers_30 ?_
        refine V_iald9 dX8_remembers_31 (hp24 hA) (nI_add _ _) (by omega) (by decide) rfl ?_
        refine VA_24 dX8_remembers_32 hA rfl (by omega) ?_
        refine V_iinc (i := 1) dX8_remembers_33 rfl (inc1 _) (by decide) ?_
        refine V_goto (tgt := 11) dX8_remembers_36 (by decide) ?_
        refine V.fin [1, 0] rfl (congrArg (HP A) ?_) k9
        rw [w3_row, row_row, row_at, shn_s]
    refine V_aload_n (i := 0) dX8_remembers_0 rfl rfl ?_
    refine V_getf fl_X8_51 dX8_remembers_1 (hp20 hA) rfl ?_
    refine V_bipush (v := nI 8) dX8_remembers_4 (by decide) ?_
    refine V_icmp_ne (tgt := 49) dX8_remembers_6 (by decide) (fun h6 => by first | exact absurd h6 (by rw [hcn, hc]; exact fun h => h rfl) | exact absurd (by rw [hcn, hc]; exact fun h => h rfl) h6) (fun _ => ?_)
    refine V_iconst (v := nI 0) dX8_remembers_9 (by decide) ?_
    refine V_istore_n (i := 1) dX8_remembers_10 rfl (by decide) ?_
    exact V.fin [1, 0] rfl (congrArg (HP A) (by rw [shn_0, row_self])) (loop 714 0 (by omega))
  ·
    refine V_aload_n (i := 0) dX8_remembers_0 rfl rfl ?_
    refine V_getf fl_X8_51 dX8_remembers_1 (hp20 hA) rfl ?_
    refine V_bipush (v := nI 8) dX8_remembers_4 (by decide) ?_
    refine V_icmp_ne (tgt := 49) dX8_remembers_6 (by decide) (fun _ => ?_) (fun h6 => by first | exact absurd (by rw [hcn]; exact fun h => hc ((nI_eq (by omega) (by omega)).mp h)) h6 | exact absurd h6 (by rw [hcn]; exact fun h => hc ((nI_eq (by omega) (by omega)).mp h)))
    refine V_aload_n (i := 0) dX8_remembers_49 rfl rfl ?_
    refine V_getf fl_X8_13 dX8_remembers_50 (hp20 hA) rfl ?_
    refine V_iconst (v := nI 0) dX8_remembers_53 (by decide) ?_
    refine V_aload_n (i := 0) dX8_remembers_54 rfl rfl ?_
    refine V_getf fl_X8_19 dX8_remembers_55 (hp20 hA) rfl ?_
    refine V_aload_n (i := 0) dX8_remembers_58 rfl rfl ?_
    refine V_getf fl_X8_51 dX8_remembers_59 (hp20 hA) rfl ?_
    refine V_bipush (v := nI 102) dX8_remembers_62 (by decide) ?_
    refine V_imul dX8_remembers_64 ?_
    rw [show σ.1 20 0 5 * nI 102 = nI (cn * 102) from by rw [hcn]; exact pk_mul _ _]
    refine Cs0_4 (d := 1) cs_X8_47 dX8_remembers_65 (t_X8_copies_22_24 hA (by decide) (by omega)) (Nat.le_of_ble_eq_true rfl) ⟨Nat.le_refl _, Nat.le_refl _⟩ (by decide) ⟨Nat.le_of_ble_eq_true rfl, Nat.le_of_ble_eq_true rfl⟩ ?_
    refine V_aload_n (i := 0) dX8_remembers_68 rfl rfl ?_
    refine V_dup dX8_remembers_69 rfl ?_
    refine V_getf fl_X8_51 dX8_remembers_70 (hp20 hA) rfl ?_
    refine V_iconst (v := 1) dX8_remembers_73 (by decide) ?_
    refine V_iadd dX8_remembers_74 ?_
    rw [show (row σ 24 0 (blit (σ.1 24 0) (cn * 102) (σ.1 22 0) 0 102)).1 20 0 5 + 1 = nI (cn + 1) from by rw [row_ne (by omega), hcn]; exact nI_1 _]
    refine VP_20_5 fl_X8_51 dX8_remembers_75 hA ?_
    refine V_vret dX8_remembers_78 rfl (Nat.le_of_ble_eq_true rfl) (Nat.le_of_ble_eq_true rfl) ?_
    refine ⟨rfl, congrArg (HP A) ?_⟩
    rw [remS, pushH, if_neg hc, upN, if_neg hc]

set_option maxHeartbeats 4000000 in
set_option maxRecDepth 100000 in
theorem t_X8_ends_y {D : va_G} {s0 : State} {l : Launch} {B : Nat} {A : AT} {σ : Sg} (hA : AOK B A) (h0 : σ.1 20 0 15 = 0) {cn : Nat} (hcn : σ.1 20 0 5 = nI cn) (hc8 : cn ≤ 8) {v pl ex : Int32} : Tri D s0 l yX8_ends cX8_ends 4 ((some .int)) 2 0 0 [.ref (A 20 0 0), .int v, .int pl, .int ex] (HP A σ) (fun r G' => r = some (.int v) ∧ G' = HP A (remS (w3 σ 20 0 6 0) cn (σ.1 22 0))) noX := by
  refine Tri.ofV (own := RX8) (mn := "ends") (by decide +kernel) rfl rfl (Nat.le_of_ble_eq_true rfl) ?_
  refine V_aload_n (i := 0) dX8_ends_0 rfl rfl ?_
  refine V_aload_n (i := 0) dX8_ends_1 rfl rfl ?_
  refine V_getf fl_X8_41 dX8_ends_2 (hp20 hA) rfl ?_
  refine V_if_ne (tgt := 12) dX8_ends_5 (by decide) (fun h5 => by first | exact absurd h5 (h0) | exact absurd (h0) h5) (fun _ => ?_)
  refine V_iconst (v := 0) dX8_ends_8 (by decide) ?_
  refine V_goto (tgt := 13) dX8_ends_9 (by decide) ?_
  refine VP_20_6 fl_X8_38 dX8_ends_13 hA ?_
  refine V_aload_n (i := 0) dX8_ends_16 rfl rfl ?_
  refine V_getf fl_X8_41 dX8_ends_17 (hp20 hA) rfl ?_
  refine V_if_eq (tgt := 59) dX8_ends_20 (by decide) (fun _ => ?_) (fun h20 => by first | exact absurd ((by rw [w3_ne (by omega)]; exact h0)) h20 | exact absurd h20 ((by rw [w3_ne (by omega)]; exact h0)))
  refine V_aload_n (i := 0) dX8_ends_59 rfl rfl ?_
  refine Cv0_0 (d := 2) cv_X8_63 dX8_ends_60 (t_X8_remembers hA (show (w3 σ 20 0 6 0).1 20 0 5 = nI cn from by rw [w3_ne (by omega)]; exact hcn) hc8) (hp20 hA) rfl rfl (Nat.le_of_ble_eq_true rfl) ⟨Nat.le_refl _, Nat.le_refl _⟩ (by decide) ⟨Nat.le_of_ble_eq_true rfl, Nat.le_of_ble_eq_true rfl⟩ ?_
  refine V_iload_n (i := 1) dX8_ends_63 rfl rfl ?_
  refine V_iret dX8_ends_64 rfl (Nat.le_of_ble_eq_true rfl) (Nat.le_of_ble_eq_true rfl) ?_
  exact ⟨rfl, rfl⟩

def refS (σ : Sg) (pl ex : Int32) : Sg := row (w3 (w3 (w3 (w3 σ 20 0 6 ex) 20 0 7 (σ.1 20 0 15)) 20 0 8 (σ.1 20 0 16)) 20 0 9 pl) 21 0 (blit (σ.1 21 0) 0 (σ.1 22 0) 0 102)

set_option maxHeartbeats 4000000 in
set_option maxRecDepth 100000 in
theorem t_X8_ends_n {D : va_G} {s0 : State} {l : Launch} {B : Nat} {A : AT} {σ : Sg} (hA : AOK B A) (h0 : ¬ σ.1 20 0 15 = 0) {v pl ex : Int32} : Tri D s0 l yX8_ends cX8_ends 4 ((some .int)) 2 0 0 [.ref (A 20 0 0), .int v, .int pl, .int ex] (HP A σ) (fun r G' => r = some (.int 0) ∧ G' = HP A (refS σ pl ex)) noX := by
  refine Tri.ofV (own := RX8) (mn := "ends") (by decide +kernel) rfl rfl (Nat.le_of_ble_eq_true rfl) ?_
  refine V_aload_n (i := 0) dX8_ends_0 rfl rfl ?_
  refine V_aload_n (i := 0) dX8_ends_1 rfl rfl ?_
  refine V_getf fl_X8_41 dX8_ends_2 (hp20 hA) rfl ?_
  refine V_if_ne (tgt := 12) dX8_ends_5 (by decide) (fun _ => ?_) (fun h5 => by first | exact absurd (h0) h5 | exact absurd h5 (h0))
  refine V_iload_n (i := 3) dX8_ends_12 rfl rfl ?_
  refine VP_20_6 fl_X8_38 dX8_ends_13 hA ?_
  refine V_aload_n (i := 0) dX8_ends_16 rfl rfl ?_
  refine V_getf fl_X8_41 dX8_ends_17 (hp20 hA) rfl ?_
  refine V_if_eq (tgt := 59) dX8_ends_20 (by decide) (fun h20 => by first | exact absurd h20 ((by rw [w3_ne (by omega)]; exact h0)) | exact absurd ((by rw [w3_ne (by omega)]; exact h0)) h20) (fun _ => ?_)
  refine V_aload_n (i := 0) dX8_ends_23 rfl rfl ?_
  refine V_aload_n (i := 0) dX8_ends_24 rfl rfl ?_
  refine V_getf fl_X8_41 dX8_ends_25 (hp20 hA) rfl ?_
  rw [show (w3 σ 20 0 6 ex).1 20 0 15 = σ.1 20 0 15 from w3_ne (by omega)]
  refine VP_20_7 fl_X8_54 dX8_ends_28 hA ?_
  refine V_aload_n (i := 0) dX8_ends_31 rfl rfl ?_
  refine V_aload_n (i := 0) dX8_ends_32 rfl rfl ?_
  refine V_getf fl_X8_44 dX8_ends_33 (hp20 hA) rfl ?_
  rw [show (w3 (w3 σ 20 0 6 ex) 20 0 7 (σ.1 20 0 15)).1 20 0 16 = σ.1 20 0 16 from by rw [w3_ne (by omega), w3_ne (by omega)]]
  refine VP_20_8 fl_X8_57 dX8_ends_36 hA ?_
  refine V_aload_n (i := 0) dX8_ends_39 rfl rfl ?_
  refine V_iload_n (i := 2) dX8_ends_40 rfl rfl ?_
  refine VP_20_9 fl_X8_60 dX8_ends_41 hA ?_
  refine V_aload_n (i := 0) dX8_ends_44 rfl rfl ?_
  refine V_getf fl_X8_13 dX8_ends_45 (hp20 hA) rfl ?_
  refine V_iconst (v := nI 0) dX8_ends_48 (by decide) ?_
  refine V_aload_n (i := 0) dX8_ends_49 rfl rfl ?_
  refine V_getf fl_X8_9 dX8_ends_50 (hp20 hA) rfl ?_
  refine V_iconst (v := nI 0) dX8_ends_53 (by decide) ?_
  refine Cs0_4 (d := 2) cs_X8_47 dX8_ends_54 (t_X8_copies_22_21 hA (by decide) (by decide)) (Nat.le_of_ble_eq_true rfl) ⟨Nat.le_refl _, Nat.le_refl _⟩ (by decide) ⟨Nat.le_of_ble_eq_true rfl, Nat.le_of_ble_eq_true rfl⟩ ?_
  refine V_iconst (v := 0) dX8_ends_57 (by decide) ?_
  refine V_iret dX8_ends_58 rfl (Nat.le_of_ble_eq_true rfl) (Nat.le_of_ble_eq_true rfl) ?_
  exact ⟨rfl, rfl⟩
