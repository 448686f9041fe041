/-! the face's changes -/
def ntd (σ : Sg) (nx : Nat) : Sg := cp σ (2 + nx) 0 (fun j => decide (j < 102))
theorem ntd_0 {σ : Sg} {nx : Nat} : (ntd σ nx).1 5 0 = σ.1 5 0 := funext fun c => cp_src (by omega)
theorem ntd_a {σ : Sg} {nx a : Nat} (h : ¬ a = 5) : (ntd σ nx).1 a = σ.1 a := funext fun b => funext fun c => if_neg (fun q => h q.1)
/-- a call that throws -/
theorem CvX1 {D : va_G} {s0 : State} {own mn : String} {cc : ByteArray} {nL : Nat} {ret : Option FieldType} {hh : List (Nat × Nat × Nat × Nat)} {l : Launch} {R : Room} {Z : ZT} {pc : Nat} {lo : List (Nat × Value)} {st : List Value} {cells slots : Nat} {G G1 : GH} {X : String} {index d d' mc' ms' b nL' : Nat} {y : MethodName} {cc' : ByteArray} {ret' : Option FieldType} {ci : Nat} {fs : List Value} {q : vw_C} {x1 : Value} (hC : CV own index y cc' nL' ret' 1) (hdg : decode cc pc = .ok (.invokevirtual index, 3)) (hM : Tri D s0 l y cc' nL' ret' d' mc' ms' (.ref b :: [x1]) G (fun _ _ => False) (fun E G' => E = X ∧ G' = G1)) (hb : G b = some (.inl (ci, fs))) (hq : cls9[ci]? = some q) (hqy : q.1 = y.cls) (hW : (st.map fun v => v.category).sum ≤ 8) (hR : d + 5 ≤ R.frames ∧ 35 * d + 120 ≤ R.locals) (hd : d' < d) (hf : cells + mc' ≤ R.cells ∧ slots + ms' ≤ R.slots) (kx : VX D s0 own mn cc nL ret hh l R Z pc lo st X G1 (cells + mc') (slots + ms')) : V D s0 own mn cc nL ret hh l R Z pc lo (x1 :: .ref b :: st) G cells slots := by
  refine V_call hC hdg hM hb hq hqy rfl rfl hW hR hd hf (fun r G' h => h.elim) (fun E G' h => ?_)
  obtain ⟨rfl, rfl⟩ := h
  exact kx

set_option maxHeartbeats 4000000 in
set_option maxRecDepth 100000 in
theorem t_X7_house {D : va_G} {s0 : State} {l : Launch} {B : Nat} {A : AT} {σ : Sg} (hA : AOK B A) (hl : l.stackTraces = false) {nx : Nat} (hnx : σ.1 3 0 0 = nI nx) (hx9 : nx < 9) {cn : Nat} (hcn : σ.1 3 0 1 = nI cn) (hc8 : cn ≤ 8) (hb : ∀ i, i < 8 → σ.1 5 0 (hx i 7) = 0 ∨ σ.1 5 0 (hx i 7) = 1) {nh : Nat} (h1 : σ.1 5 0 1 = nI nh) (hn : nh ≤ 8) {a b : Int32} (hne : (S_house (σ.1 5 0) nh a b).1.1 = 0 → ¬ (S_house (σ.1 5 0) nh a b).2.1 = -1) : Tri D s0 l yX7_house cX7_house 3 ((some .int)) 3 1 6 [.ref (A 0 0 0), .int a, .int b] (HP A σ) (fun r G' => (S_house (σ.1 5 0) nh a b).1.1 = 0 ∧ r = some (.int (S_house (σ.1 5 0) nh a b).2.1) ∧ G' = HP A (kpN (row (ntd σ nx) 5 0 (S_house (σ.1 5 0) nh a b).2.2) nx cn)) (fun E G' => ¬ (S_house (σ.1 5 0) nh a b).1.1 = 0 ∧ E = "java/lang/UnsupportedOperationException" ∧ G' = HP A (rfz (ntd σ nx) (S_house (σ.1 5 0) nh a b).1.1 (S_house (σ.1 5 0) nh a b).1.2)) := by
  refine Tri.ofV (own := RX7) (mn := "house") (by decide +kernel) rfl rfl (Nat.le_of_ble_eq_true rfl) ?_
  by_cases hS : (S_house (σ.1 5 0) nh a b).1.1 = 0
  ·
    refine V_aload_n (i := 0) dX7_house_0 rfl rfl ?_
    refine V_getf fl_X7_31 dX7_house_1 (hp0 hA) rfl ?_
    refine V_aload_n (i := 0) dX7_house_4 rfl rfl ?_
    refine V_getf fl_X7_20 dX7_house_5 (hp0 hA) rfl ?_
    refine Cv0_1 (d := 3) cv_X7_59 dX7_house_8 (t_X2_note hA hnx hx9 hb) (hp3 hA) rfl rfl (Nat.le_of_ble_eq_true rfl) ⟨Nat.le_refl _, Nat.le_refl _⟩ (by decide) ⟨Nat.le_of_ble_eq_true rfl, Nat.le_of_ble_eq_true rfl⟩ ?_
    show V _ _ _ _ _ _ _ _ _ _ _ _ _ _ (HP A (ntd σ nx)) _ _
    refine V_aload_n (i := 0) dX7_house_11 rfl rfl ?_
    refine V_aload_n (i := 0) dX7_house_12 rfl rfl ?_
    refine V_getf fl_X7_10 dX7_house_13 (hp0 hA) rfl ?_
    refine V_iload_n (i := 1) dX7_house_16 rfl rfl ?_
    refine V_iload_n (i := 2) dX7_house_17 rfl rfl ?_
    refine Cv1_2 (d := 3) cv_X7_63 dX7_house_18 (t_X6_addHouse hA (by rw [ntd_0]; exact h1) hn) (hp1 hA) rfl rfl (Nat.le_of_ble_eq_true rfl) ⟨Nat.le_refl _, Nat.le_refl _⟩ (by decide) ⟨Nat.le_of_ble_eq_true rfl, Nat.le_of_ble_eq_true rfl⟩ ?_
    rw [ntd_0, show wA (S_house (σ.1 5 0) nh a b) = (S_house (σ.1 5 0) nh a b).2.1 from if_pos hS, show wS (ntd σ nx) (S_house (σ.1 5 0) nh a b) = row (ntd σ nx) 5 0 (S_house (σ.1 5 0) nh a b).2.2 from if_pos hS]
    refine Cv1_1 (d := 3) cv_X7_67 dX7_house_21 (t_X7_settled_y hA hl (hne hS) (by rw [row_ne (by omega), ntd_a (by decide)]; exact hnx) hx9 (by rw [row_ne (by omega), ntd_a (by decide)]; exact hcn) hc8) (hp0 hA) rfl rfl (Nat.le_of_ble_eq_true rfl) ⟨Nat.le_refl _, Nat.le_refl _⟩ (by decide) ⟨Nat.le_of_ble_eq_true rfl, Nat.le_of_ble_eq_true rfl⟩ ?_
    refine V_iret dX7_house_24 rfl (Nat.le_of_ble_eq_true rfl) (Nat.le_of_ble_eq_true rfl) ?_
    exact ⟨hS, rfl, rfl⟩
  ·
    refine V_aload_n (i := 0) dX7_house_0 rfl rfl ?_
    refine V_getf fl_X7_31 dX7_house_1 (hp0 hA) rfl ?_
    refine V_aload_n (i := 0) dX7_house_4 rfl rfl ?_
    refine V_getf fl_X7_20 dX7_house_5 (hp0 hA) rfl ?_
    refine Cv0_1 (d := 3) cv_X7_59 dX7_house_8 (t_X2_note hA hnx hx9 hb) (hp3 hA) rfl rfl (Nat.le_of_ble_eq_true rfl) ⟨Nat.le_refl _, Nat.le_refl _⟩ (by decide) ⟨Nat.le_of_ble_eq_true rfl, Nat.le_of_ble_eq_true rfl⟩ ?_
    show V _ _ _ _ _ _ _ _ _ _ _ _ _ _ (HP A (ntd σ nx)) _ _
    refine V_aload_n (i := 0) dX7_house_11 rfl rfl ?_
    refine V_aload_n (i := 0) dX7_house_12 rfl rfl ?_
    refine V_getf fl_X7_10 dX7_house_13 (hp0 hA) rfl ?_
    refine V_iload_n (i := 1) dX7_house_16 rfl rfl ?_
    refine V_iload_n (i := 2) dX7_house_17 rfl rfl ?_
    refine Cv1_2 (d := 3) cv_X7_63 dX7_house_18 (t_X6_addHouse hA (by rw [ntd_0]; exact h1) hn) (hp1 hA) rfl rfl (Nat.le_of_ble_eq_true rfl) ⟨Nat.le_refl _, Nat.le_refl _⟩ (by decide) ⟨Nat.le_of_ble_eq_true rfl, Nat.le_of_ble_eq_true rfl⟩ ?_
    rw [ntd_0, show wA (S_house (σ.1 5 0) nh a b) = -1 from if_neg hS, show wS (ntd σ nx) (S_house (σ.1 5 0) nh a b) = rfz (ntd σ nx) (S_house (σ.1 5 0) nh a b).1.1 (S_house (σ.1 5 0) nh a b).1.2 from if_neg hS]
    refine CvX1 (d := 3) cv_X7_67 dX7_house_21 (t_X7_settled_n hA hl) (hp0 hA) rfl rfl (Nat.le_of_ble_eq_true rfl) ⟨Nat.le_refl _, Nat.le_refl _⟩ (by decide) ⟨Nat.le_of_ble_eq_true rfl, Nat.le_of_ble_eq_true rfl⟩ ?_
    exact VX_out rfl (Nat.le_of_ble_eq_true rfl) (Nat.le_of_ble_eq_true rfl) ⟨hS, rfl, rfl⟩

set_option maxHeartbeats 4000000 in
set_option maxRecDepth 100000 in
theorem t_X7_order {D : va_G} {s0 : State} {l : Launch} {B : Nat} {A : AT} {σ : Sg} (hA : AOK B A) (hl : l.stackTraces = false) {nx : Nat} (hnx : σ.1 3 0 0 = nI nx) (hx9 : nx < 9) {cn : Nat} (hcn : σ.1 3 0 1 = nI cn) (hc8 : cn ≤ 8) (hb : ∀ i, i < 8 → σ.1 5 0 (hx i 7) = 0 ∨ σ.1 5 0 (hx i 7) = 1) {nh : Nat} (h1 : σ.1 5 0 1 = nI nh) (hn : nh ≤ 8) {a b : Int32} (hne : (S_order (σ.1 5 0) nh a b).1.1 = 0 → ¬ (S_order (σ.1 5 0) nh a b).2.1 = -1) : Tri D s0 l yX7_order cX7_order 3 ((some .int)) 3 1 6 [.ref (A 0 0 0), .int a, .int b] (HP A σ) (fun r G' => (S_order (σ.1 5 0) nh a b).1.1 = 0 ∧ r = some (.int (S_order (σ.1 5 0) nh a b).2.1) ∧ G' = HP A (kpN (row (ntd σ nx) 5 0 (S_order (σ.1 5 0) nh a b).2.2) nx cn)) (fun E G' => ¬ (S_order (σ.1 5 0) nh a b).1.1 = 0 ∧ E = "java/lang/UnsupportedOperationException" ∧ G' = HP A (rfz (ntd σ nx) (S_order (σ.1 5 0) nh a b).1.1 (S_order (σ.1 5 0) nh a b).1.2)) := by
  refine Tri.ofV (own := RX7) (mn := "order") (by decide +kernel) rfl rfl (Nat.le_of_ble_eq_true rfl) ?_
  by_cases hS : (S_order (σ.1 5 0) nh a b).1.1 = 0
  ·
    refine V_aload_n (i := 0) dX7_order_0 rfl rfl ?_
    refine V_getf fl_X7_31 dX7_order_1 (hp0 hA) rfl ?_
    refine V_aload_n (i := 0) dX7_order_4 rfl rfl ?_
    refine V_getf fl_X7_20 dX7_order_5 (hp0 hA) rfl ?_
    refine Cv0_1 (d := 3) cv_X7_59 dX7_order_8 (t_X2_note hA hnx hx9 hb) (hp3 hA) rfl rfl (Nat.le_of_ble_eq_true rfl) ⟨Nat.le_refl _, Nat.le_refl _⟩ (by decide) ⟨Nat.le_of_ble_eq_true rfl, Nat.le_of_ble_eq_true rfl⟩ ?_
    show V _ _ _ _ _ _ _ _ _ _ _ _ _ _ (HP A (ntd σ nx)) _ _
    refine V_aload_n (i := 0) dX7_order_11 rfl rfl ?_
    refine V_aload_n (i := 0) dX7_order_12 rfl rfl ?_
    refine V_getf fl_X7_10 dX7_order_13 (hp0 hA) rfl ?_
    refine V_iload_n (i := 1) dX7_order_16 rfl rfl ?_
    refine V_iload_n (i := 2) dX7_order_17 rfl rfl ?_
    refine Cv1_2 (d := 3) cv_X7_71 dX7_order_18 (t_X6_setOrder hA (by rw [ntd_0]; exact h1) hn) (hp1 hA) rfl rfl (Nat.le_of_ble_eq_true rfl) ⟨Nat.le_refl _, Nat.le_refl _⟩ (by decide) ⟨Nat.le_of_ble_eq_true rfl, Nat.le_of_ble_eq_true rfl⟩ ?_
    rw [ntd_0, show wA (S_order (σ.1 5 0) nh a b) = (S_order (σ.1 5 0) nh a b).2.1 from if_pos hS, show wS (ntd σ nx) (S_order (σ.1 5 0) nh a b) = row (ntd σ nx) 5 0 (S_order (σ.1 5 0) nh a b).2.2 from if_pos hS]
    refine Cv1_1 (d := 3) cv_X7_67 dX7_order_21 (t_X7_settled_y hA hl (hne hS) (by rw [row_ne (by omega), ntd_a (by decide)]; exact hnx) hx9 (by rw [row_ne (by omega), ntd_a (by decide)]; exact hcn) hc8) (hp0 hA) rfl rfl (Nat.le_of_ble_eq_true rfl) ⟨Nat.le_refl _, Nat.le_refl _⟩ (by decide) ⟨Nat.le_of_ble_eq_true rfl, Nat.le_of_ble_eq_true rfl⟩ ?_
    refine V_iret dX7_order_24 rfl (Nat.le_of_ble_eq_true rfl) (Nat.le_of_ble_eq_true rfl) ?_
    exact ⟨hS, rfl, rfl⟩
  ·
    refine V_aload_n (i := 0) dX7_order_0 rfl rfl ?_
    refine V_getf fl_X7_31 dX7_order_1 (hp0 hA) rfl ?_
    refine V_aload_n (i := 0) dX7_order_4 rfl rfl ?_
    refine V_getf fl_X7_20 dX7_order_5 (hp0 hA) rfl ?_
    refine Cv0_1 (d := 3) cv_X7_59 dX7_order_8 (t_X2_note hA hnx hx9 hb) (hp3 hA) rfl rfl (Nat.le_of_ble_eq_true rfl) ⟨Nat.le_refl _, Nat.le_refl _⟩ (by decide) ⟨Nat.le_of_ble_eq_true rfl, Nat.le_of_ble_eq_true rfl⟩ ?_
    show V _ _ _ _ _ _ _ _ _ _ _ _ _ _ (HP A (ntd σ nx)) _ _
    refine V_aload_n (i := 0) dX7_order_11 rfl rfl ?_
    refine V_aload_n (i := 0) dX7_order_12 rfl rfl ?_
    refine V_getf fl_X7_10 dX7_order_13 (hp0 hA) rfl ?_
    refine V_iload_n (i := 1) dX7_order_16 rfl rfl ?_
    refine V_iload_n (i := 2) dX7_order_17 rfl rfl ?_
    refine Cv1_2 (d := 3) cv_X7_71 dX7_order_18 (t_X6_setOrder hA (by rw [ntd_0]; exact h1) hn) (hp1 hA) rfl rfl (Nat.le_of_ble_eq_true rfl) ⟨Nat.le_refl _, Nat.le_refl _⟩ (by decide) ⟨Nat.le_of_ble_eq_true rfl, Nat.le_of_ble_eq_true rfl⟩ ?_
    rw [ntd_0, show wA (S_order (σ.1 5 0) nh a b) = -1 from if_neg hS, show wS (ntd σ nx) (S_order (σ.1 5 0) nh a b) = rfz (ntd σ nx) (S_order (σ.1 5 0) nh a b).1.1 (S_order (σ.1 5 0) nh a b).1.2 from if_neg hS]
    refine CvX1 (d := 3) cv_X7_67 dX7_order_21 (t_X7_settled_n hA hl) (hp0 hA) rfl rfl (Nat.le_of_ble_eq_true rfl) ⟨Nat.le_refl _, Nat.le_refl _⟩ (by decide) ⟨Nat.le_of_ble_eq_true rfl, Nat.le_of_ble_eq_true rfl⟩ ?_
    exact VX_out rfl (Nat.le_of_ble_eq_true rfl) (Nat.le_of_ble_eq_true rfl) ⟨hS, rfl, rfl⟩

set_option maxHeartbeats 4000000 in
set_option maxRecDepth 100000 in
theorem t_X7_carrier {D : va_G} {s0 : State} {l : Launch} {B : Nat} {A : AT} {σ : Sg} (hA : AOK B A) (hl : l.stackTraces = false) {nx : Nat} (hnx : σ.1 3 0 0 = nI nx) (hx9 : nx < 9) {cn : Nat} (hcn : σ.1 3 0 1 = nI cn) (hc8 : cn ≤ 8) (hb : ∀ i, i < 8 → σ.1 5 0 (hx i 7) = 0 ∨ σ.1 5 0 (hx i 7) = 1) {nc : Nat} (h2 : σ.1 5 0 2 = nI nc) (hm : nc ≤ 4) {a : Int32} (hne : (S_carrier (σ.1 5 0) nc a).1.1 = 0 → ¬ (S_carrier (σ.1 5 0) nc a).2.1 = -1) : Tri D s0 l yX7_carrier cX7_carrier 2 ((some .int)) 3 1 6 [.ref (A 0 0 0), .int a] (HP A σ) (fun r G' => (S_carrier (σ.1 5 0) nc a).1.1 = 0 ∧ r = some (.int (S_carrier (σ.1 5 0) nc a).2.1) ∧ G' = HP A (kpN (row (ntd σ nx) 5 0 (S_carrier (σ.1 5 0) nc a).2.2) nx cn)) (fun E G' => ¬ (S_carrier (σ.1 5 0) nc a).1.1 = 0 ∧ E = "java/lang/UnsupportedOperationException" ∧ G' = HP A (rfz (ntd σ nx) (S_carrier (σ.1 5 0) nc a).1.1 (S_carrier (σ.1 5 0) nc a).1.2)) := by
  refine Tri.ofV (own := RX7) (mn := "carrier") (by decide +kernel) rfl rfl (Nat.le_of_ble_eq_true rfl) ?_
  by_cases hS : (S_carrier (σ.1 5 0) nc a).1.1 = 0
  ·
    refine V_aload_n (i := 0) dX7_carrier_0 rfl rfl ?_
    refine V_getf fl_X7_31 dX7_carrier_1 (hp0 hA) rfl ?_
    refine V_aload_n (i := 0) dX7_carrier_4 rfl rfl ?_
    refine V_getf fl_X7_20 dX7_carrier_5 (hp0 hA) rfl ?_
    refine Cv0_1 (d := 3) cv_X7_59 dX7_carrier_8 (t_X2_note hA hnx hx9 hb) (hp3 hA) rfl rfl (Nat.le_of_ble_eq_true rfl) ⟨Nat.le_refl _, Nat.le_refl _⟩ (by decide) ⟨Nat.le_of_ble_eq_true rfl, Nat.le_of_ble_eq_true rfl⟩ ?_
    show V _ _ _ _ _ _ _ _ _ _ _ _ _ _ (HP A (ntd σ nx)) _ _
    refine V_aload_n (i := 0) dX7_carrier_11 rfl rfl ?_
    refine V_aload_n (i := 0) dX7_carrier_12 rfl rfl ?_
    refine V_getf fl_X7_10 dX7_carrier_13 (hp0 hA) rfl ?_
    refine V_iload_n (i := 1) dX7_carrier_16 rfl rfl ?_
    refine Cv1_1 (d := 3) cv_X7_74 dX7_carrier_17 (t_X6_addCarrier hA (by rw [ntd_0]; exact h2) hm) (hp1 hA) rfl rfl (Nat.le_of_ble_eq_true rfl) ⟨Nat.le_refl _, Nat.le_refl _⟩ (by decide) ⟨Nat.le_of_ble_eq_true rfl, Nat.le_of_ble_eq_true rfl⟩ ?_
    rw [ntd_0, show wA (S_carrier (σ.1 5 0) nc a) = (S_carrier (σ.1 5 0) nc a).2.1 from if_pos hS, show wS (ntd σ nx) (S_carrier (σ.1 5 0) nc a) = row (ntd σ nx) 5 0 (S_carrier (σ.1 5 0) nc a).2.2 from if_pos hS]
    refine Cv1_1 (d := 3) cv_X7_67 dX7_carrier_20 (t_X7_settled_y hA hl (hne hS) (by rw [row_ne (by omega), ntd_a (by decide)]; exact hnx) hx9 (by rw [row_ne (by omega), ntd_a (by decide)]; exact hcn) hc8) (hp0 hA) rfl rfl (Nat.le_of_ble_eq_true rfl) ⟨Nat.le_refl _, Nat.le_refl _⟩ (by decide) ⟨Nat.le_of_ble_eq_true rfl, Nat.le_of_ble_eq_true rfl⟩ ?_
    refine V_iret dX7_carrier_23 rfl (Nat.le_of_ble_eq_true rfl) (Nat.le_of_ble_eq_true rfl) ?_
    exact ⟨hS, rfl, rfl⟩
  ·
    refine V_aload_n (i := 0) dX7_carrier_0 rfl rfl ?_
    refine V_getf fl_X7_31 dX7_carrier_1 (hp0 hA) rfl ?_
    refine V_aload_n (i := 0) dX7_carrier_4 rfl rfl ?_
    refine V_getf fl_X7_20 dX7_carrier_5 (hp0 hA) rfl ?_
    refine Cv0_1 (d := 3) cv_X7_59 dX7_carrier_8 (t_X2_note hA hnx hx9 hb) (hp3 hA) rfl rfl (Nat.le_of_ble_eq_true rfl) ⟨Nat.le_refl _, Nat.le_refl _⟩ (by decide) ⟨Nat.le_of_ble_eq_true rfl, Nat.le_of_ble_eq_true rfl⟩ ?_
    show V _ _ _ _ _ _ _ _ _ _ _ _ _ _ (HP A (ntd σ nx)) _ _
    refine V_aload_n (i := 0) dX7_carrier_11 rfl rfl ?_
    refine V_aload_n (i := 0) dX7_carrier_12 rfl rfl ?_
    refine V_getf fl_X7_10 dX7_carrier_13 (hp0 hA) rfl ?_
    refine V_iload_n (i := 1) dX7_carrier_16 rfl rfl ?_
    refine Cv1_1 (d := 3) cv_X7_74 dX7_carrier_17 (t_X6_addCarrier hA (by rw [ntd_0]; exact h2) hm) (hp1 hA) rfl rfl (Nat.le_of_ble_eq_true rfl) ⟨Nat.le_refl _, Nat.le_refl _⟩ (by decide) ⟨Nat.le_of_ble_eq_true rfl, Nat.le_of_ble_eq_true rfl⟩ ?_
    rw [ntd_0, show wA (S_carrier (σ.1 5 0) nc a) = -1 from if_neg hS, show wS (ntd σ nx) (S_carrier (σ.1 5 0) nc a) = rfz (ntd σ nx) (S_carrier (σ.1 5 0) nc a).1.1 (S_carrier (σ.1 5 0) nc a).1.2 from if_neg hS]
    refine CvX1 (d := 3) cv_X7_67 dX7_carrier_20 (t_X7_settled_n hA hl) (hp0 hA) rfl rfl (Nat.le_of_ble_eq_true rfl) ⟨Nat.le_refl _, Nat.le_refl _⟩ (by decide) ⟨Nat.le_of_ble_eq_true rfl, Nat.le_of_ble_eq_true rfl⟩ ?_
    exact VX_out rfl (Nat.le_of_ble_eq_true rfl) (Nat.le_of_ble_eq_true rfl) ⟨hS, rfl, rfl⟩

set_option maxHeartbeats 4000000 in
set_option maxRecDepth 100000 in
theorem t_X7_load {D : va_G} {s0 : State} {l : Launch} {B : Nat} {A : AT} {σ : Sg} (hA : AOK B A) (hl : l.stackTraces = false) {nx : Nat} (hnx : σ.1 3 0 0 = nI nx) (hx9 : nx < 9) {cn : Nat} (hcn : σ.1 3 0 1 = nI cn) (hc8 : cn ≤ 8) (hb : ∀ i, i < 8 → σ.1 5 0 (hx i 7) = 0 ∨ σ.1 5 0 (hx i 7) = 1) {a : Int32} (hne : (S_load (σ.1 5 0) a).1.1 = 0 → ¬ (S_load (σ.1 5 0) a).2.1 = -1) : Tri D s0 l yX7_load cX7_load 2 ((some .int)) 3 1 6 [.ref (A 0 0 0), .int a] (HP A σ) (fun r G' => (S_load (σ.1 5 0) a).1.1 = 0 ∧ r = some (.int (S_load (σ.1 5 0) a).2.1) ∧ G' = HP A (kpN (row (ntd σ nx) 5 0 (S_load (σ.1 5 0) a).2.2) nx cn)) (fun E G' => ¬ (S_load (σ.1 5 0) a).1.1 = 0 ∧ E = "java/lang/UnsupportedOperationException" ∧ G' = HP A (rfz (ntd σ nx) (S_load (σ.1 5 0) a).1.1 (S_load (σ.1 5 0) a).1.2)) := by
  refine Tri.ofV (own := RX7) (mn := "load") (by decide +kernel) rfl rfl (Nat.le_of_ble_eq_true rfl) ?_
  by_cases hS : (S_load (σ.1 5 0) a).1.1 = 0
  ·
    refine V_aload_n (i := 0) dX7_load_0 rfl rfl ?_
    refine V_getf fl_X7_31 dX7_load_1 (hp0 hA) rfl ?_
    refine V_aload_n (i := 0) dX7_load_4 rfl rfl ?_
    refine V_getf fl_X7_20 dX7_load_5 (hp0 hA) rfl ?_
    refine Cv0_1 (d := 3) cv_X7_59 dX7_load_8 (t_X2_note hA hnx hx9 hb) (hp3 hA) rfl rfl (Nat.le_of_ble_eq_true rfl) ⟨Nat.le_refl _, Nat.le_refl _⟩ (by decide) ⟨Nat.le_of_ble_eq_true rfl, Nat.le_of_ble_eq_true rfl⟩ ?_
    show V _ _ _ _ _ _ _ _ _ _ _ _ _ _ (HP A (ntd σ nx)) _ _
    refine V_aload_n (i := 0) dX7_load_11 rfl rfl ?_
    refine V_aload_n (i := 0) dX7_load_12 rfl rfl ?_
    refine V_getf fl_X7_10 dX7_load_13 (hp0 hA) rfl ?_
    refine V_iload_n (i := 1) dX7_load_16 rfl rfl ?_
    refine Cv1_1 (d := 3) cv_X7_77 dX7_load_17 (t_X6_loadCart hA ) (hp1 hA) rfl rfl (Nat.le_of_ble_eq_true rfl) ⟨Nat.le_refl _, Nat.le_refl _⟩ (by decide) ⟨Nat.le_of_ble_eq_true rfl, Nat.le_of_ble_eq_true rfl⟩ ?_
    rw [ntd_0, show wA (S_load (σ.1 5 0) a) = (S_load (σ.1 5 0) a).2.1 from if_pos hS, show wS (ntd σ nx) (S_load (σ.1 5 0) a) = row (ntd σ nx) 5 0 (S_load (σ.1 5 0) a).2.2 from if_pos hS]
    refine Cv1_1 (d := 3) cv_X7_67 dX7_load_20 (t_X7_settled_y hA hl (hne hS) (by rw [row_ne (by omega), ntd_a (by decide)]; exact hnx) hx9 (by rw [row_ne (by omega), ntd_a (by decide)]; exact hcn) hc8) (hp0 hA) rfl rfl (Nat.le_of_ble_eq_true rfl) ⟨Nat.le_refl _, Nat.le_refl _⟩ (by decide) ⟨Nat.le_of_ble_eq_true rfl, Nat.le_of_ble_eq_true rfl⟩ ?_
    refine V_iret dX7_load_23 rfl (Nat.le_of_ble_eq_true rfl) (Nat.le_of_ble_eq_true rfl) ?_
    exact ⟨hS, rfl, rfl⟩
  ·
    refine V_aload_n (i := 0) dX7_load_0 rfl rfl ?_
    refine V_getf fl_X7_31 dX7_load_1 (hp0 hA) rfl ?_
    refine V_aload_n (i := 0) dX7_load_4 rfl rfl ?_
    refine V_getf fl_X7_20 dX7_load_5 (hp0 hA) rfl ?_
    refine Cv0_1 (d := 3) cv_X7_59 dX7_load_8 (t_X2_note hA hnx hx9 hb) (hp3 hA) rfl rfl (Nat.le_of_ble_eq_true rfl) ⟨Nat.le_refl _, Nat.le_refl _⟩ (by decide) ⟨Nat.le_of_ble_eq_true rfl, Nat.le_of_ble_eq_true rfl⟩ ?_
    show V _ _ _ _ _ _ _ _ _ _ _ _ _ _ (HP A (ntd σ nx)) _ _
    refine V_aload_n (i := 0) dX7_load_11 rfl rfl ?_
    refine V_aload_n (i := 0) dX7_load_12 rfl rfl ?_
    refine V_getf fl_X7_10 dX7_load_13 (hp0 hA) rfl ?_
    refine V_iload_n (i := 1) dX7_load_16 rfl rfl ?_
    refine Cv1_1 (d := 3) cv_X7_77 dX7_load_17 (t_X6_loadCart hA ) (hp1 hA) rfl rfl (Nat.le_of_ble_eq_true rfl) ⟨Nat.le_refl _, Nat.le_refl _⟩ (by decide) ⟨Nat.le_of_ble_eq_true rfl, Nat.le_of_ble_eq_true rfl⟩ ?_
    rw [ntd_0, show wA (S_load (σ.1 5 0) a) = -1 from if_neg hS, show wS (ntd σ nx) (S_load (σ.1 5 0) a) = rfz (ntd σ nx) (S_load (σ.1 5 0) a).1.1 (S_load (σ.1 5 0) a).1.2 from if_neg hS]
    refine CvX1 (d := 3) cv_X7_67 dX7_load_20 (t_X7_settled_n hA hl) (hp0 hA) rfl rfl (Nat.le_of_ble_eq_true rfl) ⟨Nat.le_refl _, Nat.le_refl _⟩ (by decide) ⟨Nat.le_of_ble_eq_true rfl, Nat.le_of_ble_eq_true rfl⟩ ?_
    exact VX_out rfl (Nat.le_of_ble_eq_true rfl) (Nat.le_of_ble_eq_true rfl) ⟨hS, rfl, rfl⟩

set_option maxHeartbeats 4000000 in
set_option maxRecDepth 100000 in
theorem t_X7_drive {D : va_G} {s0 : State} {l : Launch} {B : Nat} {A : AT} {σ : Sg} (hA : AOK B A) (hl : l.stackTraces = false) {nx : Nat} (hnx : σ.1 3 0 0 = nI nx) (hx9 : nx < 9) {cn : Nat} (hcn : σ.1 3 0 1 = nI cn) (hc8 : cn ≤ 8) (hb : ∀ i, i < 8 → σ.1 5 0 (hx i 7) = 0 ∨ σ.1 5 0 (hx i 7) = 1) {nh : Nat} (h1 : σ.1 5 0 1 = nI nh) (hn : nh ≤ 8) {a : Int32} (hne : (S_drive (σ.1 5 0) nh a).1.1 = 0 → ¬ (S_drive (σ.1 5 0) nh a).2.1 = -1) : Tri D s0 l yX7_drive cX7_drive 2 ((some .int)) 3 1 6 [.ref (A 0 0 0), .int a] (HP A σ) (fun r G' => (S_drive (σ.1 5 0) nh a).1.1 = 0 ∧ r = some (.int (S_drive (σ.1 5 0) nh a).2.1) ∧ G' = HP A (kpN (row (ntd σ nx) 5 0 (S_drive (σ.1 5 0) nh a).2.2) nx cn)) (fun E G' => ¬ (S_drive (σ.1 5 0) nh a).1.1 = 0 ∧ E = "java/lang/UnsupportedOperationException" ∧ G' = HP A (rfz (ntd σ nx) (S_drive (σ.1 5 0) nh a).1.1 (S_drive (σ.1 5 0) nh a).1.2)) := by
  refine Tri.ofV (own := RX7) (mn := "drive") (by decide +kernel) rfl rfl (Nat.le_of_ble_eq_true rfl) ?_
  by_cases hS : (S_drive (σ.1 5 0) nh a).1.1 = 0
  ·
    refine V_aload_n (i := 0) dX7_drive_0 rfl rfl ?_
    refine V_getf fl_X7_31 dX7_drive_1 (hp0 hA) rfl ?_
    refine V_aload_n (i := 0) dX7_drive_4 rfl rfl ?_
    refine V_getf fl_X7_20 dX7_drive_5 (hp0 hA) rfl ?_
    refine Cv0_1 (d := 3) cv_X7_59 dX7_drive_8 (t_X2_note hA hnx hx9 hb) (hp3 hA) rfl rfl (Nat.le_of_ble_eq_true rfl) ⟨Nat.le_refl _, Nat.le_refl _⟩ (by decide) ⟨Nat.le_of_ble_eq_true rfl, Nat.le_of_ble_eq_true rfl⟩ ?_
    show V _ _ _ _ _ _ _ _ _ _ _ _ _ _ (HP A (ntd σ nx)) _ _
    refine V_aload_n (i := 0) dX7_drive_11 rfl rfl ?_
    refine V_aload_n (i := 0) dX7_drive_12 rfl rfl ?_
    refine V_getf fl_X7_10 dX7_drive_13 (hp0 hA) rfl ?_
    refine V_iload_n (i := 1) dX7_drive_16 rfl rfl ?_
    refine Cv1_1 (d := 3) cv_X7_80 dX7_drive_17 (t_X6_driveCart hA (by rw [ntd_0]; exact h1) hn) (hp1 hA) rfl rfl (Nat.le_of_ble_eq_true rfl) ⟨Nat.le_refl _, Nat.le_refl _⟩ (by decide) ⟨Nat.le_of_ble_eq_true rfl, Nat.le_of_ble_eq_true rfl⟩ ?_
    rw [ntd_0, show wA (S_drive (σ.1 5 0) nh a) = (S_drive (σ.1 5 0) nh a).2.1 from if_pos hS, show wS (ntd σ nx) (S_drive (σ.1 5 0) nh a) = row (ntd σ nx) 5 0 (S_drive (σ.1 5 0) nh a).2.2 from if_pos hS]
    refine Cv1_1 (d := 3) cv_X7_67 dX7_drive_20 (t_X7_settled_y hA hl (hne hS) (by rw [row_ne (by omega), ntd_a (by decide)]; exact hnx) hx9 (by rw [row_ne (by omega), ntd_a (by decide)]; exact hcn) hc8) (hp0 hA) rfl rfl (Nat.le_of_ble_eq_true rfl) ⟨Nat.le_refl _, Nat.le_refl _⟩ (by decide) ⟨Nat.le_of_ble_eq_true rfl, Nat.le_of_ble_eq_true rfl⟩ ?_
    refine V_iret dX7_drive_23 rfl (Nat.le_of_ble_eq_true rfl) (Nat.le_of_ble_eq_true rfl) ?_
    exact ⟨hS, rfl, rfl⟩
  ·
    refine V_aload_n (i := 0) dX7_drive_0 rfl rfl ?_
    refine V_getf fl_X7_31 dX7_drive_1 (hp0 hA) rfl ?_
    refine V_aload_n (i := 0) dX7_drive_4 rfl rfl ?_
    refine V_getf fl_X7_20 dX7_drive_5 (hp0 hA) rfl ?_
    refine Cv0_1 (d := 3) cv_X7_59 dX7_drive_8 (t_X2_note hA hnx hx9 hb) (hp3 hA) rfl rfl (Nat.le_of_ble_eq_true rfl) ⟨Nat.le_refl _, Nat.le_refl _⟩ (by decide) ⟨Nat.le_of_ble_eq_true rfl, Nat.le_of_ble_eq_true rfl⟩ ?_
    show V _ _ _ _ _ _ _ _ _ _ _ _ _ _ (HP A (ntd σ nx)) _ _
    refine V_aload_n (i := 0) dX7_drive_11 rfl rfl ?_
    refine V_aload_n (i := 0) dX7_drive_12 rfl rfl ?_
    refine V_getf fl_X7_10 dX7_drive_13 (hp0 hA) rfl ?_
    refine V_iload_n (i := 1) dX7_drive_16 rfl rfl ?_
    refine Cv1_1 (d := 3) cv_X7_80 dX7_drive_17 (t_X6_driveCart hA (by rw [ntd_0]; exact h1) hn) (hp1 hA) rfl rfl (Nat.le_of_ble_eq_true rfl) ⟨Nat.le_refl _, Nat.le_refl _⟩ (by decide) ⟨Nat.le_of_ble_eq_true rfl, Nat.le_of_ble_eq_true rfl⟩ ?_
    rw [ntd_0, show wA (S_drive (σ.1 5 0) nh a) = -1 from if_neg hS, show wS (ntd σ nx) (S_drive (σ.1 5 0) nh a) = rfz (ntd σ nx) (S_drive (σ.1 5 0) nh a).1.1 (S_drive (σ.1 5 0) nh a).1.2 from if_neg hS]
    refine CvX1 (d := 3) cv_X7_67 dX7_drive_20 (t_X7_settled_n hA hl) (hp0 hA) rfl rfl (Nat.le_of_ble_eq_true rfl) ⟨Nat.le_refl _, Nat.le_refl _⟩ (by decide) ⟨Nat.le_of_ble_eq_true rfl, Nat.le_of_ble_eq_true rfl⟩ ?_
    exact VX_out rfl (Nat.le_of_ble_eq_true rfl) (Nat.le_of_ble_eq_true rfl) ⟨hS, rfl, rfl⟩

set_option maxHeartbeats 4000000 in
set_option maxRecDepth 100000 in
theorem t_X7_carry {D : va_G} {s0 : State} {l : Launch} {B : Nat} {A : AT} {σ : Sg} (hA : AOK B A) (hl : l.stackTraces = false) {nx : Nat} (hnx : σ.1 3 0 0 = nI nx) (hx9 : nx < 9) {cn : Nat} (hcn : σ.1 3 0 1 = nI cn) (hc8 : cn ≤ 8) (hb : ∀ i, i < 8 → σ.1 5 0 (hx i 7) = 0 ∨ σ.1 5 0 (hx i 7) = 1) {nh : Nat} (h1 : σ.1 5 0 1 = nI nh) (hn : nh ≤ 8) {nc : Nat} (h2 : σ.1 5 0 2 = nI nc) (hm : nc ≤ 4) {pl : Nat} (h3 : σ.1 5 0 3 = nI pl) (hp : pl ≤ nh) {a b : Int32} (hne : (S_carry (σ.1 5 0) nc pl a b).1.1 = 0 → ¬ (S_carry (σ.1 5 0) nc pl a b).2.1 = -1) : Tri D s0 l yX7_carry cX7_carry 3 ((some .int)) 4 1 6 [.ref (A 0 0 0), .int a, .int b] (HP A σ) (fun r G' => (S_carry (σ.1 5 0) nc pl a b).1.1 = 0 ∧ r = some (.int (S_carry (σ.1 5 0) nc pl a b).2.1) ∧ G' = HP A (kpN (row (ntd σ nx) 5 0 (S_carry (σ.1 5 0) nc pl a b).2.2) nx cn)) (fun E G' => ¬ (S_carry (σ.1 5 0) nc pl a b).1.1 = 0 ∧ E = "java/lang/UnsupportedOperationException" ∧ G' = HP A (rfz (ntd σ nx) (S_carry (σ.1 5 0) nc pl a b).1.1 (S_carry (σ.1 5 0) nc pl a b).1.2)) := by
  refine Tri.ofV (own := RX7) (mn := "carry") (by decide +kernel) rfl rfl (Nat.le_of_ble_eq_true rfl) ?_
  by_cases hS : (S_carry (σ.1 5 0) nc pl a b).1.1 = 0
  ·
    refine V_aload_n (i := 0) dX7_carry_0 rfl rfl ?_
    refine V_getf fl_X7_31 dX7_carry_1 (hp0 hA) rfl ?_
    refine V_aload_n (i := 0) dX7_carry_4 rfl rfl ?_
    refine V_getf fl_X7_20 dX7_carry_5 (hp0 hA) rfl ?_
    refine Cv0_1 (d := 4) cv_X7_59 dX7_carry_8 (t_X2_note hA hnx hx9 hb) (hp3 hA) rfl rfl (Nat.le_of_ble_eq_true rfl) ⟨Nat.le_refl _, Nat.le_refl _⟩ (by decide) ⟨Nat.le_of_ble_eq_true rfl, Nat.le_of_ble_eq_true rfl⟩ ?_
    show V _ _ _ _ _ _ _ _ _ _ _ _ _ _ (HP A (ntd σ nx)) _ _
    refine V_aload_n (i := 0) dX7_carry_11 rfl rfl ?_
    refine V_aload_n (i := 0) dX7_carry_12 rfl rfl ?_
    refine V_getf fl_X7_10 dX7_carry_13 (hp0 hA) rfl ?_
    refine V_iload_n (i := 1) dX7_carry_16 rfl rfl ?_
    refine V_iload_n (i := 2) dX7_carry_17 rfl rfl ?_
    refine Cv1_2 (d := 4) cv_X7_83 dX7_carry_18 (t_X6_carryUp hA (by rw [ntd_0]; exact h1) hn (by rw [ntd_0]; exact h2) hm (by rw [ntd_0]; exact h3) hp) (hp1 hA) rfl rfl (Nat.le_of_ble_eq_true rfl) ⟨Nat.le_refl _, Nat.le_refl _⟩ (by decide) ⟨Nat.le_of_ble_eq_true rfl, Nat.le_of_ble_eq_true rfl⟩ ?_
    rw [ntd_0, show wA (S_carry (σ.1 5 0) nc pl a b) = (S_carry (σ.1 5 0) nc pl a b).2.1 from if_pos hS, show wS (ntd σ nx) (S_carry (σ.1 5 0) nc pl a b) = row (ntd σ nx) 5 0 (S_carry (σ.1 5 0) nc pl a b).2.2 from if_pos hS]
    refine Cv1_1 (d := 4) cv_X7_67 dX7_carry_21 (t_X7_settled_y hA hl (hne hS) (by rw [row_ne (by omega), ntd_a (by decide)]; exact hnx) hx9 (by rw [row_ne (by omega), ntd_a (by decide)]; exact hcn) hc8) (hp0 hA) rfl rfl (Nat.le_of_ble_eq_true rfl) ⟨Nat.le_refl _, Nat.le_refl _⟩ (by decide) ⟨Nat.le_of_ble_eq_true rfl, Nat.le_of_ble_eq_true rfl⟩ ?_
    refine V_iret dX7_carry_24 rfl (Nat.le_of_ble_eq_true rfl) (Nat.le_of_ble_eq_true rfl) ?_
    exact ⟨hS, rfl, rfl⟩
  ·
    refine V_aload_n (i := 0) dX7_carry_0 rfl rfl ?_
    refine V_getf fl_X7_31 dX7_carry_1 (hp0 hA) rfl ?_
    refine V_aload_n (i := 0) dX7_carry_4 rfl rfl ?_
    refine V_getf fl_X7_20 dX7_carry_5 (hp0 hA) rfl ?_
    refine Cv0_1 (d := 4) cv_X7_59 dX7_carry_8 (t_X2_note hA hnx hx9 hb) (hp3 hA) rfl rfl (Nat.le_of_ble_eq_true rfl) ⟨Nat.le_refl _, Nat.le_refl _⟩ (by decide) ⟨Nat.le_of_ble_eq_true rfl, Nat.le_of_ble_eq_true rfl⟩ ?_
    show V _ _ _ _ _ _ _ _ _ _ _ _ _ _ (HP A (ntd σ nx)) _ _
    refine V_aload_n (i := 0) dX7_carry_11 rfl rfl ?_
    refine V_aload_n (i := 0) dX7_carry_12 rfl rfl ?_
    refine V_getf fl_X7_10 dX7_carry_13 (hp0 hA) rfl ?_
    refine V_iload_n (i := 1) dX7_carry_16 rfl rfl ?_
    refine V_iload_n (i := 2) dX7_carry_17 rfl rfl ?_
    refine Cv1_2 (d := 4) cv_X7_83 dX7_carry_18 (t_X6_carryUp hA (by rw [ntd_0]; exact h1) hn (by rw [ntd_0]; exact h2) hm (by rw [ntd_0]; exact h3) hp) (hp1 hA) rfl rfl (Nat.le_of_ble_eq_true rfl) ⟨Nat.le_refl _, Nat.le_refl _⟩ (by decide) ⟨Nat.le_of_ble_eq_true rfl, Nat.le_of_ble_eq_true rfl⟩ ?_
    rw [ntd_0, show wA (S_carry (σ.1 5 0) nc pl a b) = -1 from if_neg hS, show wS (ntd σ nx) (S_carry (σ.1 5 0) nc pl a b) = rfz (ntd σ nx) (S_carry (σ.1 5 0) nc pl a b).1.1 (S_carry (σ.1 5 0) nc pl a b).1.2 from if_neg hS]
    refine CvX1 (d := 4) cv_X7_67 dX7_carry_21 (t_X7_settled_n hA hl) (hp0 hA) rfl rfl (Nat.le_of_ble_eq_true rfl) ⟨Nat.le_refl _, Nat.le_refl _⟩ (by decide) ⟨Nat.le_of_ble_eq_true rfl, Nat.le_of_ble_eq_true rfl⟩ ?_
    exact VX_out rfl (Nat.le_of_ble_eq_true rfl) (Nat.le_of_ble_eq_true rfl) ⟨hS, rfl, rfl⟩

set_option maxHeartbeats 4000000 in
set_option maxRecDepth 100000 in
theorem t_X7_bone {D : va_G} {s0 : State} {l : Launch} {B : Nat} {A : AT} {σ : Sg} (hA : AOK B A) (hl : l.stackTraces = false) {nx : Nat} (hnx : σ.1 3 0 0 = nI nx) (hx9 : nx < 9) {cn : Nat} (hcn : σ.1 3 0 1 = nI cn) (hc8 : cn ≤ 8) (hb : ∀ i, i < 8 → σ.1 5 0 (hx i 7) = 0 ∨ σ.1 5 0 (hx i 7) = 1) {nh : Nat} (h1 : σ.1 5 0 1 = nI nh) (hn : nh ≤ 8) {pl : Nat} (h3 : σ.1 5 0 3 = nI pl) (hp : pl ≤ nh) (hne : (S_bone (σ.1 5 0) pl).1.1 = 0 → ¬ (S_bone (σ.1 5 0) pl).2.1 = -1) : Tri D s0 l yX7_bone cX7_bone 1 ((some .int)) 4 1 6 [.ref (A 0 0 0)] (HP A σ) (fun r G' => (S_bone (σ.1 5 0) pl).1.1 = 0 ∧ r = some (.int (S_bone (σ.1 5 0) pl).2.1) ∧ G' = HP A (kpN (row (ntd σ nx) 5 0 (S_bone (σ.1 5 0) pl).2.2) nx cn)) (fun E G' => ¬ (S_bone (σ.1 5 0) pl).1.1 = 0 ∧ E = "java/lang/UnsupportedOperationException" ∧ G' = HP A (rfz (ntd σ nx) (S_bone (σ.1 5 0) pl).1.1 (S_bone (σ.1 5 0) pl).1.2)) := by
  refine Tri.ofV (own := RX7) (mn := "bone") (by decide +kernel) rfl rfl (Nat.le_of_ble_eq_true rfl) ?_
  by_cases hS : (S_bone (σ.1 5 0) pl).1.1 = 0
  ·
    refine V_aload_n (i := 0) dX7_bone_0 rfl rfl ?_
    refine V_getf fl_X7_31 dX7_bone_1 (hp0 hA) rfl ?_
    refine V_aload_n (i := 0) dX7_bone_4 rfl rfl ?_
    refine V_getf fl_X7_20 dX7_bone_5 (hp0 hA) rfl ?_
    refine Cv0_1 (d := 4) cv_X7_59 dX7_bone_8 (t_X2_note hA hnx hx9 hb) (hp3 hA) rfl rfl (Nat.le_of_ble_eq_true rfl) ⟨Nat.le_refl _, Nat.le_refl _⟩ (by decide) ⟨Nat.le_of_ble_eq_true rfl, Nat.le_of_ble_eq_true rfl⟩ ?_
    show V _ _ _ _ _ _ _ _ _ _ _ _ _ _ (HP A (ntd σ nx)) _ _
    refine V_aload_n (i := 0) dX7_bone_11 rfl rfl ?_
    refine V_aload_n (i := 0) dX7_bone_12 rfl rfl ?_
    refine V_getf fl_X7_10 dX7_bone_13 (hp0 hA) rfl ?_
    refine Cv1_0 (d := 4) cv_X7_86 dX7_bone_16 (t_X6_giveBone hA (by rw [ntd_0]; exact h1) hn (by rw [ntd_0]; exact h3) hp) (hp1 hA) rfl rfl (Nat.le_of_ble_eq_true rfl) ⟨Nat.le_refl _, Nat.le_refl _⟩ (by decide) ⟨Nat.le_of_ble_eq_true rfl, Nat.le_of_ble_eq_true rfl⟩ ?_
    rw [ntd_0, show wA (S_bone (σ.1 5 0) pl) = (S_bone (σ.1 5 0) pl).2.1 from if_pos hS, show wS (ntd σ nx) (S_bone (σ.1 5 0) pl) = row (ntd σ nx) 5 0 (S_bone (σ.1 5 0) pl).2.2 from if_pos hS]
    refine Cv1_1 (d := 4) cv_X7_67 dX7_bone_19 (t_X7_settled_y hA hl (hne hS) (by rw [row_ne (by omega), ntd_a (by decide)]; exact hnx) hx9 (by rw [row_ne (by omega), ntd_a (by decide)]; exact hcn) hc8) (hp0 hA) rfl rfl (Nat.le_of_ble_eq_true rfl) ⟨Nat.le_refl _, Nat.le_refl _⟩ (by decide) ⟨Nat.le_of_ble_eq_true rfl, Nat.le_of_ble_eq_true rfl⟩ ?_
    refine V_iret dX7_bone_22 rfl (Nat.le_of_ble_eq_true rfl) (Nat.le_of_ble_eq_true rfl) ?_
    exact ⟨hS, rfl, rfl⟩
  ·
    refine V_aload_n (i := 0) dX7_bone_0 rfl rfl ?_
    refine V_getf fl_X7_31 dX7_bone_1 (hp0 hA) rfl ?_
    refine V_aload_n (i := 0) dX7_bone_4 rfl rfl ?_
    refine V_getf fl_X7_20 dX7_bone_5 (hp0 hA) rfl ?_
    refine Cv0_1 (d := 4) cv_X7_59 dX7_bone_8 (t_X2_note hA hnx hx9 hb) (hp3 hA) rfl rfl (Nat.le_of_ble_eq_true rfl) ⟨Nat.le_refl _, Nat.le_refl _⟩ (by decide) ⟨Nat.le_of_ble_eq_true rfl, Nat.le_of_ble_eq_true rfl⟩ ?_
    show V _ _ _ _ _ _ _ _ _ _ _ _ _ _ (HP A (ntd σ nx)) _ _
    refine V_aload_n (i := 0) dX7_bone_11 rfl rfl ?_
    refine V_aload_n (i := 0) dX7_bone_12 rfl rfl ?_
    refine V_getf fl_X7_10 dX7_bone_13 (hp0 hA) rfl ?_
    refine Cv1_0 (d := 4) cv_X7_86 dX7_bone_16 (t_X6_giveBone hA (by rw [ntd_0]; exact h1) hn (by rw [ntd_0]; exact h3) hp) (hp1 hA) rfl rfl (Nat.le_of_ble_eq_true rfl) ⟨Nat.le_refl _, Nat.le_refl _⟩ (by decide) ⟨Nat.le_of_ble_eq_true rfl, Nat.le_of_ble_eq_true rfl⟩ ?_
    rw [ntd_0, show wA (S_bone (σ.1 5 0) pl) = -1 from if_neg hS, show wS (ntd σ nx) (S_bone (σ.1 5 0) pl) = rfz (ntd σ nx) (S_bone (σ.1 5 0) pl).1.1 (S_bone (σ.1 5 0) pl).1.2 from if_neg hS]
    refine CvX1 (d := 4) cv_X7_67 dX7_bone_19 (t_X7_settled_n hA hl) (hp0 hA) rfl rfl (Nat.le_of_ble_eq_true rfl) ⟨Nat.le_refl _, Nat.le_refl _⟩ (by decide) ⟨Nat.le_of_ble_eq_true rfl, Nat.le_of_ble_eq_true rfl⟩ ?_
    exact VX_out rfl (Nat.le_of_ble_eq_true rfl) (Nat.le_of_ble_eq_true rfl) ⟨hS, rfl, rfl⟩

set_option maxHeartbeats 4000000 in
set_option maxRecDepth 100000 in
theorem t_X7_bones {D : va_G} {s0 : State} {l : Launch} {B : Nat} {A : AT} {σ : Sg} (hA : AOK B A) (hl : l.stackTraces = false) {nx : Nat} (hnx : σ.1 3 0 0 = nI nx) (hx9 : nx < 9) {cn : Nat} (hcn : σ.1 3 0 1 = nI cn) (hc8 : cn ≤ 8) (hb : ∀ i, i < 8 → σ.1 5 0 (hx i 7) = 0 ∨ σ.1 5 0 (hx i 7) = 1) {a : Int32} (hne : (S_bones (σ.1 5 0) a).1.1 = 0 → ¬ (S_bones (σ.1 5 0) a).2.1 = -1) : Tri D s0 l yX7_bones cX7_bones 2 ((some .int)) 3 1 6 [.ref (A 0 0 0), .int a] (HP A σ) (fun r G' => (S_bones (σ.1 5 0) a).1.1 = 0 ∧ r = some (.int (S_bones (σ.1 5 0) a).2.1) ∧ G' = HP A (kpN (row (ntd σ nx) 5 0 (S_bones (σ.1 5 0) a).2.2) nx cn)) (fun E G' => ¬ (S_bones (σ.1 5 0) a).1.1 = 0 ∧ E = "java/lang/UnsupportedOperationException" ∧ G' = HP A (rfz (ntd σ nx) (S_bones (σ.1 5 0) a).1.1 (S_bones (σ.1 5 0) a).1.2)) := by
  refine Tri.ofV (own := RX7) (mn := "bones") (by decide +kernel) rfl rfl (Nat.le_of_ble_eq_true rfl) ?_
  by_cases hS : (S_bones (σ.1 5 0) a).1.1 = 0
  ·
    refine V_aload_n (i := 0) dX7_bones_0 rfl rfl ?_
    refine V_getf fl_X7_31 dX7_bones_1 (hp0 hA) rfl ?_
    refine V_aload_n (i := 0) dX7_bones_4 rfl rfl ?_
    refine V_getf fl_X7_20 dX7_bones_5 (hp0 hA) rfl ?_
    refine Cv0_1 (d := 3) cv_X7_59 dX7_bones_8 (t_X2_note hA hnx hx9 hb) (hp3 hA) rfl rfl (Nat.le_of_ble_eq_true rfl) ⟨Nat.le_refl _, Nat.le_refl _⟩ (by decide) ⟨Nat.le_of_ble_eq_true rfl, Nat.le_of_ble_eq_true rfl⟩ ?_
    show V _ _ _ _ _ _ _ _ _ _ _ _ _ _ (HP A (ntd σ nx)) _ _
    refine V_aload_n (i := 0) dX7_bones_11 rfl rfl ?_
    refine V_aload_n (i := 0) dX7_bones_12 rfl rfl ?_
    refine V_getf fl_X7_10 dX7_bones_13 (hp0 hA) rfl ?_
    refine V_iload_n (i := 1) dX7_bones_16 rfl rfl ?_
    refine Cv1_1 (d := 3) cv_X7_90 dX7_bones_17 (t_X6_buyBones hA ) (hp1 hA) rfl rfl (Nat.le_of_ble_eq_true rfl) ⟨Nat.le_refl _, Nat.le_refl _⟩ (by decide) ⟨Nat.le_of_ble_eq_true rfl, Nat.le_of_ble_eq_true rfl⟩ ?_
    rw [ntd_0, show wA (S_bones (σ.1 5 0) a) = (S_bones (σ.1 5 0) a).2.1 from if_pos hS, show wS (ntd σ nx) (S_bones (σ.1 5 0) a) = row (ntd σ nx) 5 0 (S_bones (σ.1 5 0) a).2.2 from if_pos hS]
    refine Cv1_1 (d := 3) cv_X7_67 dX7_bones_20 (t_X7_settled_y hA hl (hne hS) (by rw [row_ne (by omega), ntd_a (by decide)]; exact hnx) hx9 (by rw [row_ne (by omega), ntd_a (by decide)]; exact hcn) hc8) (hp0 hA) rfl rfl (Nat.le_of_ble_eq_true rfl) ⟨Nat.le_refl _, Nat.le_refl _⟩ (by decide) ⟨Nat.le_of_ble_eq_true rfl, Nat.le_of_ble_eq_true rfl⟩ ?_
    refine V_iret dX7_bones_23 rfl (Nat.le_of_ble_eq_true rfl) (Nat.le_of_ble_eq_true rfl) ?_
    exact ⟨hS, rfl, rfl⟩
  ·
    refine V_aload_n (i := 0) dX7_bones_0 rfl rfl ?_
    refine V_getf fl_X7_31 dX7_bones_1 (hp0 hA) rfl ?_
    refine V_aload_n (i := 0) dX7_bones_4 rfl rfl ?_
    refine V_getf fl_X7_20 dX7_bones_5 (hp0 hA) rfl ?_
    refine Cv0_1 (d := 3) cv_X7_59 dX7_bones_8 (t_X2_note hA hnx hx9 hb) (hp3 hA) rfl rfl (Nat.le_of_ble_eq_true rfl) ⟨Nat.le_refl _, Nat.le_refl _⟩ (by decide) ⟨Nat.le_of_ble_eq_true rfl, Nat.le_of_ble_eq_true rfl⟩ ?_
    show V _ _ _ _ _ _ _ _ _ _ _ _ _ _ (HP A (ntd σ nx)) _ _
    refine V_aload_n (i := 0) dX7_bones_11 rfl rfl ?_
    refine V_aload_n (i := 0) dX7_bones_12 rfl rfl ?_
    refine V_getf fl_X7_10 dX7_bones_13 (hp0 hA) rfl ?_
    refine V_iload_n (i := 1) dX7_bones_16 rfl rfl ?_
    refine Cv1_1 (d := 3) cv_X7_90 dX7_bones_17 (t_X6_buyBones hA ) (hp1 hA) rfl rfl (Nat.le_of_ble_eq_true rfl) ⟨Nat.le_refl _, Nat.le_refl _⟩ (by decide) ⟨Nat.le_of_ble_eq_true rfl, Nat.le_of_ble_eq_true rfl⟩ ?_
    rw [ntd_0, show wA (S_bones (σ.1 5 0) a) = -1 from if_neg hS, show wS (ntd σ nx) (S_bones (σ.1 5 0) a) = rfz (ntd σ nx) (S_bones (σ.1 5 0) a).1.1 (S_bones (σ.1 5 0) a).1.2 from if_neg hS]
    refine CvX1 (d := 3) cv_X7_67 dX7_bones_20 (t_X7_settled_n hA hl) (hp0 hA) rfl rfl (Nat.le_of_ble_eq_true rfl) ⟨Nat.le_refl _, Nat.le_refl _⟩ (by decide) ⟨Nat.le_of_ble_eq_true rfl, Nat.le_of_ble_eq_true rfl⟩ ?_
    exact VX_out rfl (Nat.le_of_ble_eq_true rfl) (Nat.le_of_ble_eq_true rfl) ⟨hS, rfl, rfl⟩

set_option maxHeartbeats 4000000 in
set_option maxRecDepth 100000 in
theorem t_X7_mop {D : va_G} {s0 : State} {l : Launch} {B : Nat} {A : AT} {σ : Sg} (hA : AOK B A) (hl : l.stackTraces = false) {nx : Nat} (hnx : σ.1 3 0 0 = nI nx) (hx9 : nx < 9) {cn : Nat} (hcn : σ.1 3 0 1 = nI cn) (hc8 : cn ≤ 8) (hb : ∀ i, i < 8 → σ.1 5 0 (hx i 7) = 0 ∨ σ.1 5 0 (hx i 7) = 1) {nh : Nat} (h1 : σ.1 5 0 1 = nI nh) (hn : nh ≤ 8) {nc : Nat} (h2 : σ.1 5 0 2 = nI nc) (hm : nc ≤ 4) {pl : Nat} (h3 : σ.1 5 0 3 = nI pl) (hp : pl ≤ nh) {a : Int32} (hne : (S_mop (σ.1 5 0) nc pl a).1.1 = 0 → ¬ (S_mop (σ.1 5 0) nc pl a).2.1 = -1) : Tri D s0 l yX7_mop cX7_mop 2 ((some .int)) 4 1 6 [.ref (A 0 0 0), .int a] (HP A σ) (fun r G' => (S_mop (σ.1 5 0) nc pl a).1.1 = 0 ∧ r = some (.int (S_mop (σ.1 5 0) nc pl a).2.1) ∧ G' = HP A (kpN (row (ntd σ nx) 5 0 (S_mop (σ.1 5 0) nc pl a).2.2) nx cn)) (fun E G' => ¬ (S_mop (σ.1 5 0) nc pl a).1.1 = 0 ∧ E = "java/lang/UnsupportedOperationException" ∧ G' = HP A (rfz (ntd σ nx) (S_mop (σ.1 5 0) nc pl a).1.1 (S_mop (σ.1 5 0) nc pl a).1.2)) := by
  refine Tri.ofV (own := RX7) (mn := "mop") (by decide +kernel) rfl rfl (Nat.le_of_ble_eq_true rfl) ?_
  by_cases hS : (S_mop (σ.1 5 0) nc pl a).1.1 = 0
  ·
    refine V_aload_n (i := 0) dX7_mop_0 rfl rfl ?_
    refine V_getf fl_X7_31 dX7_mop_1 (hp0 hA) rfl ?_
    refine V_aload_n (i := 0) dX7_mop_4 rfl rfl ?_
    refine V_getf fl_X7_20 dX7_mop_5 (hp0 hA) rfl ?_
    refine Cv0_1 (d := 4) cv_X7_59 dX7_mop_8 (t_X2_note hA hnx hx9 hb) (hp3 hA) rfl rfl (Nat.le_of_ble_eq_true rfl) ⟨Nat.le_refl _, Nat.le_refl _⟩ (by decide) ⟨Nat.le_of_ble_eq_true rfl, Nat.le_of_ble_eq_true rfl⟩ ?_
    show V _ _ _ _ _ _ _ _ _ _ _ _ _ _ (HP A (ntd σ nx)) _ _
    refine V_aload_n (i := 0) dX7_mop_11 rfl rfl ?_
    refine V_aload_n (i := 0) dX7_mop_12 rfl rfl ?_
    refine V_getf fl_X7_10 dX7_mop_13 (hp0 hA) rfl ?_
    refine V_iload_n (i := 1) dX7_mop_16 rfl rfl ?_
    refine Cv1_1 (d := 4) cv_X7_93 dX7_mop_17 (t_X6_mopStairs hA (by rw [ntd_0]; exact h1) hn (by rw [ntd_0]; exact h2) hm (by rw [ntd_0]; exact h3) hp) (hp1 hA) rfl rfl (Nat.le_of_ble_eq_true rfl) ⟨Nat.le_refl _, Nat.le_refl _⟩ (by decide) ⟨Nat.le_of_ble_eq_true rfl, Nat.le_of_ble_eq_true rfl⟩ ?_
    rw [ntd_0, show wA (S_mop (σ.1 5 0) nc pl a) = (S_mop (σ.1 5 0) nc pl a).2.1 from if_pos hS, show wS (ntd σ nx) (S_mop (σ.1 5 0) nc pl a) = row (ntd σ nx) 5 0 (S_mop (σ.1 5 0) nc pl a).2.2 from if_pos hS]
    refine Cv1_1 (d := 4) cv_X7_67 dX7_mop_20 (t_X7_settled_y hA hl (hne hS) (by rw [row_ne (by omega), ntd_a (by decide)]; exact hnx) hx9 (by rw [row_ne (by omega), ntd_a (by decide)]; exact hcn) hc8) (hp0 hA) rfl rfl (Nat.le_of_ble_eq_true rfl) ⟨Nat.le_refl _, Nat.le_refl _⟩ (by decide) ⟨Nat.le_of_ble_eq_true rfl, Nat.le_of_ble_eq_true rfl⟩ ?_
    refine V_iret dX7_mop_23 rfl (Nat.le_of_ble_eq_true rfl) (Nat.le_of_ble_eq_true rfl) ?_
    exact ⟨hS, rfl, rfl⟩
  ·
    refine V_aload_n (i := 0) dX7_mop_0 rfl rfl ?_
    refine V_getf fl_X7_31 dX7_mop_1 (hp0 hA) rfl ?_
    refine V_aload_n (i := 0) dX7_mop_4 rfl rfl ?_
    refine V_getf fl_X7_20 dX7_mop_5 (hp0 hA) rfl ?_
    refine Cv0_1 (d := 4) cv_X7_59 dX7_mop_8 (t_X2_note hA hnx hx9 hb) (hp3 hA) rfl rfl (Nat.le_of_ble_eq_true rfl) ⟨Nat.le_refl _, Nat.le_refl _⟩ (by decide) ⟨Nat.le_of_ble_eq_true rfl, Nat.le_of_ble_eq_true rfl⟩ ?_
    show V _ _ _ _ _ _ _ _ _ _ _ _ _ _ (HP A (ntd σ nx)) _ _
    refine V_aload_n (i := 0) dX7_mop_11 rfl rfl ?_
    refine V_aload_n (i := 0) dX7_mop_12 rfl rfl ?_
    refine V_getf fl_X7_10 dX7_mop_13 (hp0 hA) rfl ?_
    refine V_iload_n (i := 1) dX7_mop_16 rfl rfl ?_
    refine Cv1_1 (d := 4) cv_X7_93 dX7_mop_17 (t_X6_mopStairs hA (by rw [ntd_0]; exact h1) hn (by rw [ntd_0]; exact h2) hm (by rw [ntd_0]; exact h3) hp) (hp1 hA) rfl rfl (Nat.le_of_ble_eq_true rfl) ⟨Nat.le_refl _, Nat.le_refl _⟩ (by decide) ⟨Nat.le_of_ble_eq_true rfl, Nat.le_of_ble_eq_true rfl⟩ ?_
    rw [ntd_0, show wA (S_mop (σ.1 5 0) nc pl a) = -1 from if_neg hS, show wS (ntd σ nx) (S_mop (σ.1 5 0) nc pl a) = rfz (ntd σ nx) (S_mop (σ.1 5 0) nc pl a).1.1 (S_mop (σ.1 5 0) nc pl a).1.2 from if_neg hS]
    refine CvX1 (d := 4) cv_X7_67 dX7_mop_20 (t_X7_settled_n hA hl) (hp0 hA) rfl rfl (Nat.le_of_ble_eq_true rfl) ⟨Nat.le_refl _, Nat.le_refl _⟩ (by decide) ⟨Nat.le_of_ble_eq_true rfl, Nat.le_of_ble_eq_true rfl⟩ ?_
    exact VX_out rfl (Nat.le_of_ble_eq_true rfl) (Nat.le_of_ble_eq_true rfl) ⟨hS, rfl, rfl⟩

set_option maxHeartbeats 4000000 in
set_option maxRecDepth 100000 in
theorem t_X7_pay {D : va_G} {s0 : State} {l : Launch} {B : Nat} {A : AT} {σ : Sg} (hA : AOK B A) (hl : l.stackTraces = false) {nx : Nat} (hnx : σ.1 3 0 0 = nI nx) (hx9 : nx < 9) {cn : Nat} (hcn : σ.1 3 0 1 = nI cn) (hc8 : cn ≤ 8) (hb : ∀ i, i < 8 → σ.1 5 0 (hx i 7) = 0 ∨ σ.1 5 0 (hx i 7) = 1) {nh : Nat} (h1 : σ.1 5 0 1 = nI nh) (hn : nh ≤ 8) {a b : Int32} (hne : (S_pay (σ.1 5 0) nh a b).1.1 = 0 → ¬ (S_pay (σ.1 5 0) nh a b).2.1 = -1) : Tri D s0 l yX7_pay cX7_pay 3 ((some .int)) 3 1 6 [.ref (A 0 0 0), .int a, .int b] (HP A σ) (fun r G' => (S_pay (σ.1 5 0) nh a b).1.1 = 0 ∧ r = some (.int (S_pay (σ.1 5 0) nh a b).2.1) ∧ G' = HP A (kpN (row (ntd σ nx) 5 0 (S_pay (σ.1 5 0) nh a b).2.2) nx cn)) (fun E G' => ¬ (S_pay (σ.1 5 0) nh a b).1.1 = 0 ∧ E = "java/lang/UnsupportedOperationException" ∧ G' = HP A (rfz (ntd σ nx) (S_pay (σ.1 5 0) nh a b).1.1 (S_pay (σ.1 5 0) nh a b).1.2)) := by
  refine Tri.ofV (own := RX7) (mn := "pay") (by decide +kernel) rfl rfl (Nat.le_of_ble_eq_true rfl) ?_
  by_cases hS : (S_pay (σ.1 5 0) nh a b).1.1 = 0
  ·
    refine V_aload_n (i := 0) dX7_pay_0 rfl rfl ?_
    refine V_getf fl_X7_31 dX7_pay_1 (hp0 hA) rfl ?_
    refine V_aload_n (i := 0) dX7_pay_4 rfl rfl ?_
    refine V_getf fl_X7_20 dX7_pay_5 (hp0 hA) rfl ?_
    refine Cv0_1 (d := 3) cv_X7_59 dX7_pay_8 (t_X2_note hA hnx hx9 hb) (hp3 hA) rfl rfl (Nat.le_of_ble_eq_true rfl) ⟨Nat.le_refl _, Nat.le_refl _⟩ (by decide) ⟨Nat.le_of_ble_eq_true rfl, Nat.le_of_ble_eq_true rfl⟩ ?_
    show V _ _ _ _ _ _ _ _ _ _ _ _ _ _ (HP A (ntd σ nx)) _ _
    refine V_aload_n (i := 0) dX7_pay_11 rfl rfl ?_
    refine V_aload_n (i := 0) dX7_pay_12 rfl rfl ?_
    refine V_getf fl_X7_10 dX7_pay_13 (hp0 hA) rfl ?_
    refine V_iload_n (i := 1) dX7_pay_16 rfl rfl ?_
    refine V_iload_n (i := 2) dX7_pay_17 rfl rfl ?_
    refine Cv1_2 (d := 3) cv_X7_96 dX7_pay_18 (t_X6_takePay hA (by rw [ntd_0]; exact h1) hn) (hp1 hA) rfl rfl (Nat.le_of_ble_eq_true rfl) ⟨Nat.le_refl _, Nat.le_refl _⟩ (by decide) ⟨Nat.le_of_ble_eq_true rfl, Nat.le_of_ble_eq_true rfl⟩ ?_
    rw [ntd_0, show wA (S_pay (σ.1 5 0) nh a b) = (S_pay (σ.1 5 0) nh a b).2.1 from if_pos hS, show wS (ntd σ nx) (S_pay (σ.1 5 0) nh a b) = row (ntd σ nx) 5 0 (S_pay (σ.1 5 0) nh a b).2.2 from if_pos hS]
    refine Cv1_1 (d := 3) cv_X7_67 dX7_pay_21 (t_X7_settled_y hA hl (hne hS) (by rw [row_ne (by omega), ntd_a (by decide)]; exact hnx) hx9 (by rw [row_ne (by omega), ntd_a (by decide)]; exact hcn) hc8) (hp0 hA) rfl rfl (Nat.le_of_ble_eq_true rfl) ⟨Nat.le_refl _, Nat.le_refl _⟩ (by decide) ⟨Nat.le_of_ble_eq_true rfl, Nat.le_of_ble_eq_true rfl⟩ ?_
    refine V_iret dX7_pay_24 rfl (Nat.le_of_ble_eq_true rfl) (Nat.le_of_ble_eq_true rfl) ?_
    exact ⟨hS, rfl, rfl⟩
  ·
    refine V_aload_n (i := 0) dX7_pay_0 rfl rfl ?_
    refine V_getf fl_X7_31 dX7_pay_1 (hp0 hA) rfl ?_
    refine V_aload_n (i := 0) dX7_pay_4 rfl rfl ?_
    refine V_getf fl_X7_20 dX7_pay_5 (hp0 hA) rfl ?_
    refine Cv0_1 (d := 3) cv_X7_59 dX7_pay_8 (t_X2_note hA hnx hx9 hb) (hp3 hA) rfl rfl (Nat.le_of_ble_eq_true rfl) ⟨Nat.le_refl _, Nat.le_refl _⟩ (by decide) ⟨Nat.le_of_ble_eq_true rfl, Nat.le_of_ble_eq_true rfl⟩ ?_
    show V _ _ _ _ _ _ _ _ _ _ _ _ _ _ (HP A (ntd σ nx)) _ _
    refine V_aload_n (i := 0) dX7_pay_11 rfl rfl ?_
    refine V_aload_n (i := 0) dX7_pay_12 rfl rfl ?_
    refine V_getf fl_X7_10 dX7_pay_13 (hp0 hA) rfl ?_
    refine V_iload_n (i := 1) dX7_pay_16 rfl rfl ?_
    refine V_iload_n (i := 2) dX7_pay_17 rfl rfl ?_
    refine Cv1_2 (d := 3) cv_X7_96 dX7_pay_18 (t_X6_takePay hA (by rw [ntd_0]; exact h1) hn) (hp1 hA) rfl rfl (Nat.le_of_ble_eq_true rfl) ⟨Nat.le_refl _, Nat.le_refl _⟩ (by decide) ⟨Nat.le_of_ble_eq_true rfl, Nat.le_of_ble_eq_true rfl⟩ ?_
    rw [ntd_0, show wA (S_pay (σ.1 5 0) nh a b) = -1 from if_neg hS, show wS (ntd σ nx) (S_pay (σ.1 5 0) nh a b) = rfz (ntd σ nx) (S_pay (σ.1 5 0) nh a b).1.1 (S_pay (σ.1 5 0) nh a b).1.2 from if_neg hS]
    refine CvX1 (d := 3) cv_X7_67 dX7_pay_21 (t_X7_settled_n hA hl) (hp0 hA) rfl rfl (Nat.le_of_ble_eq_true rfl) ⟨Nat.le_refl _, Nat.le_refl _⟩ (by decide) ⟨Nat.le_of_ble_eq_true rfl, Nat.le_of_ble_eq_true rfl⟩ ?_
    exact VX_out rfl (Nat.le_of_ble_eq_true rfl) (Nat.le_of_ble_eq_true rfl) ⟨hS, rfl, rfl⟩

set_option maxHeartbeats 4000000 in
set_option maxRecDepth 100000 in
theorem t_X7_shoe {D : va_G} {s0 : State} {l : Launch} {B : Nat} {A : AT} {σ : Sg} (hA : AOK B A) (hl : l.stackTraces = false) {nx : Nat} (hnx : σ.1 3 0 0 = nI nx) (hx9 : nx < 9) {cn : Nat} (hcn : σ.1 3 0 1 = nI cn) (hc8 : cn ≤ 8) (hb : ∀ i, i < 8 → σ.1 5 0 (hx i 7) = 0 ∨ σ.1 5 0 (hx i 7) = 1) {a : Int32} (hne : (S_shoe (σ.1 5 0) a).1.1 = 0 → ¬ (S_shoe (σ.1 5 0) a).2.1 = -1) : Tri D s0 l yX7_shoe cX7_shoe 2 ((some .int)) 3 1 6 [.ref (A 0 0 0), .int a] (HP A σ) (fun r G' => (S_shoe (σ.1 5 0) a).1.1 = 0 ∧ r = some (.int (S_shoe (σ.1 5 0) a).2.1) ∧ G' = HP A (kpN (row (ntd σ nx) 5 0 (S_shoe (σ.1 5 0) a).2.2) nx cn)) (fun E G' => ¬ (S_shoe (σ.1 5 0) a).1.1 = 0 ∧ E = "java/lang/UnsupportedOperationException" ∧ G' = HP A (rfz (ntd σ nx) (S_shoe (σ.1 5 0) a).1.1 (S_shoe (σ.1 5 0) a).1.2)) := by
  refine Tri.ofV (own := RX7) (mn := "shoe") (by decide +kernel) rfl rfl (Nat.le_of_ble_eq_true rfl) ?_
  by_cases hS : (S_shoe (σ.1 5 0) a).1.1 = 0
  ·
    refine V_aload_n (i := 0) dX7_shoe_0 rfl rfl ?_
    refine V_getf fl_X7_31 dX7_shoe_1 (hp0 hA) rfl ?_
    refine V_aload_n (i := 0) dX7_shoe_4 rfl rfl ?_
    refine V_getf fl_X7_20 dX7_shoe_5 (hp0 hA) rfl ?_
    refine Cv0_1 (d := 3) cv_X7_59 dX7_shoe_8 (t_X2_note hA hnx hx9 hb) (hp3 hA) rfl rfl (Nat.le_of_ble_eq_true rfl) ⟨Nat.le_refl _, Nat.le_refl _⟩ (by decide) ⟨Nat.le_of_ble_eq_true rfl, Nat.le_of_ble_eq_true rfl⟩ ?_
    show V _ _ _ _ _ _ _ _ _ _ _ _ _ _ (HP A (ntd σ nx)) _ _
    refine V_aload_n (i := 0) dX7_shoe_11 rfl rfl ?_
    refine V_aload_n (i := 0) dX7_shoe_12 rfl rfl ?_
    refine V_getf fl_X7_10 dX7_shoe_13 (hp0 hA) rfl ?_
    refine V_iload_n (i := 1) dX7_shoe_16 rfl rfl ?_
    refine Cv1_1 (d := 3) cv_X7_99 dX7_shoe_17 (t_X6_shoeHorse hA ) (hp1 hA) rfl rfl (Nat.le_of_ble_eq_true rfl) ⟨Nat.le_refl _, Nat.le_refl _⟩ (by decide) ⟨Nat.le_of_ble_eq_true rfl, Nat.le_of_ble_eq_true rfl⟩ ?_
    rw [ntd_0, show wA (S_shoe (σ.1 5 0) a) = (S_shoe (σ.1 5 0) a).2.1 from if_pos hS, show wS (ntd σ nx) (S_shoe (σ.1 5 0) a) = row (ntd σ nx) 5 0 (S_shoe (σ.1 5 0) a).2.2 from if_pos hS]
    refine Cv1_1 (d := 3) cv_X7_67 dX7_shoe_20 (t_X7_settled_y hA hl (hne hS) (by rw [row_ne (by omega), ntd_a (by decide)]; exact hnx) hx9 (by rw [row_ne (by omega), ntd_a (by decide)]; exact hcn) hc8) (hp0 hA) rfl rfl (Nat.le_of_ble_eq_true rfl) ⟨Nat.le_refl _, Nat.le_refl _⟩ (by decide) ⟨Nat.le_of_ble_eq_true rfl, Nat.le_of_ble_eq_true rfl⟩ ?_
    refine V_iret dX7_shoe_23 rfl (Nat.le_of_ble_eq_true rfl) (Nat.le_of_ble_eq_true rfl) ?_
    exact ⟨hS, rfl, rfl⟩
  ·
    refine V_aload_n (i := 0) dX7_shoe_0 rfl rfl ?_
    refine V_getf fl_X7_31 dX7_shoe_1 (hp0 hA) rfl ?_
    refine V_aload_n (i := 0) dX7_shoe_4 rfl rfl ?_
    refine V_getf fl_X7_20 dX7_shoe_5 (hp0 hA) rfl ?_
    refine Cv0_1 (d := 3) cv_X7_59 dX7_shoe_8 (t_X2_note hA hnx hx9 hb) (hp3 hA) rfl rfl (Nat.le_of_ble_eq_true rfl) ⟨Nat.le_refl _, Nat.le_refl _⟩ (by decide) ⟨Nat.le_of_ble_eq_true rfl, Nat.le_of_ble_eq_true rfl⟩ ?_
    show V _ _ _ _ _ _ _ _ _ _ _ _ _ _ (HP A (ntd σ nx)) _ _
    refine V_aload_n (i := 0) dX7_shoe_11 rfl rfl ?_
    refine V_aload_n (i := 0) dX7_shoe_12 rfl rfl ?_
    refine V_getf fl_X7_10 dX7_shoe_13 (hp0 hA) rfl ?_
    refine V_iload_n (i := 1) dX7_shoe_16 rfl rfl ?_
    refine Cv1_1 (d := 3) cv_X7_99 dX7_shoe_17 (t_X6_shoeHorse hA ) (hp1 hA) rfl rfl (Nat.le_of_ble_eq_true rfl) ⟨Nat.le_refl _, Nat.le_refl _⟩ (by decide) ⟨Nat.le_of_ble_eq_true rfl, Nat.le_of_ble_eq_true rfl⟩ ?_
    rw [ntd_0, show wA (S_shoe (σ.1 5 0) a) = -1 from if_neg hS, show wS (ntd σ nx) (S_shoe (σ.1 5 0) a) = rfz (ntd σ nx) (S_shoe (σ.1 5 0) a).1.1 (S_shoe (σ.1 5 0) a).1.2 from if_neg hS]
    refine CvX1 (d := 3) cv_X7_67 dX7_shoe_20 (t_X7_settled_n hA hl) (hp0 hA) rfl rfl (Nat.le_of_ble_eq_true rfl) ⟨Nat.le_refl _, Nat.le_refl _⟩ (by decide) ⟨Nat.le_of_ble_eq_true rfl, Nat.le_of_ble_eq_true rfl⟩ ?_
    exact VX_out rfl (Nat.le_of_ble_eq_true rfl) (Nat.le_of_ble_eq_true rfl) ⟨hS, rfl, rfl⟩

set_option maxHeartbeats 4000000 in
set_option maxRecDepth 100000 in
theorem t_X7_days {D : va_G} {s0 : State} {l : Launch} {B : Nat} {A : AT} {σ : Sg} (hA : AOK B A) (hl : l.stackTraces = false) {nx : Nat} (hnx : σ.1 3 0 0 = nI nx) (hx9 : nx < 9) {cn : Nat} (hcn : σ.1 3 0 1 = nI cn) (hc8 : cn ≤ 8) (hb : ∀ i, i < 8 → σ.1 5 0 (hx i 7) = 0 ∨ σ.1 5 0 (hx i 7) = 1) {nh : Nat} (h1 : σ.1 5 0 1 = nI nh) (hn : nh ≤ 8) {nc : Nat} (h2 : σ.1 5 0 2 = nI nc) (hm : nc ≤ 4) {a : Int32} (hne : (S_days (σ.1 5 0) nh nc a).1.1 = 0 → ¬ (S_days (σ.1 5 0) nh nc a).2.1 = -1) : Tri D s0 l yX7_days cX7_days 2 ((some .int)) 4 1 6 [.ref (A 0 0 0), .int a] (HP A σ) (fun r G' => (S_days (σ.1 5 0) nh nc a).1.1 = 0 ∧ r = some (.int (S_days (σ.1 5 0) nh nc a).2.1) ∧ G' = HP A (kpN (row (ntd σ nx) 5 0 (S_days (σ.1 5 0) nh nc a).2.2) nx cn)) (fun E G' => ¬ (S_days (σ.1 5 0) nh nc a).1.1 = 0 ∧ E = "java/lang/UnsupportedOperationException" ∧ G' = HP A (rfz (ntd σ nx) (S_days (σ.1 5 0) nh nc a).1.1 (S_days (σ.1 5 0) nh nc a).1.2)) := by
  refine Tri.ofV (own := RX7) (mn := "days") (by decide +kernel) rfl rfl (Nat.le_of_ble_eq_true rfl) ?_
  by_cases hS : (S_days (σ.1 5 0) nh nc a).1.1 = 0
  ·
    refine V_aload_n (i := 0) dX7_days_0 rfl rfl ?_
    refine V_getf fl_X7_31 dX7_days_1 (hp0 hA) rfl ?_
    refine V_aload_n (i := 0) dX7_days_4 rfl rfl ?_
    refine V_getf fl_X7_20 dX7_days_5 (hp0 hA) rfl ?_
    refine Cv0_1 (d := 4) cv_X7_59 dX7_days_8 (t_X2_note hA hnx hx9 hb) (hp3 hA) rfl rfl (Nat.le_of_ble_eq_true rfl) ⟨Nat.le_refl _, Nat.le_refl _⟩ (by decide) ⟨Nat.le_of_ble_eq_true rfl, Nat.le_of_ble_eq_true rfl⟩ ?_
    show V _ _ _ _ _ _ _ _ _ _ _ _ _ _ (HP A (ntd σ nx)) _ _
    refine V_aload_n (i := 0) dX7_days_11 rfl rfl ?_
    refine V_aload_n (i := 0) dX7_days_12 rfl rfl ?_
    refine V_getf fl_X7_10 dX7_days_13 (hp0 hA) rfl ?_
    refine V_iload_n (i := 1) dX7_days_16 rfl rfl ?_
    refine Cv1_1 (d := 4) cv_X7_102 dX7_days_17 (t_X6_passDays hA (by rw [ntd_0]; exact h1) hn (by rw [ntd_0]; exact h2) hm) (hp1 hA) rfl rfl (Nat.le_of_ble_eq_true rfl) ⟨Nat.le_refl _, Nat.le_refl _⟩ (by decide) ⟨Nat.le_of_ble_eq_true rfl, Nat.le_of_ble_eq_true rfl⟩ ?_
    rw [ntd_0, show wA (S_days (σ.1 5 0) nh nc a) = (S_days (σ.1 5 0) nh nc a).2.1 from if_pos hS, show wS (ntd σ nx) (S_days (σ.1 5 0) nh nc a) = row (ntd σ nx) 5 0 (S_days (σ.1 5 0) nh nc a).2.2 from if_pos hS]
    refine Cv1_1 (d := 4) cv_X7_67 dX7_days_20 (t_X7_settled_y hA hl (hne hS) (by rw [row_ne (by omega), ntd_a (by decide)]; exact hnx) hx9 (by rw [row_ne (by omega), ntd_a (by decide)]; exact hcn) hc8) (hp0 hA) rfl rfl (Nat.le_of_ble_eq_true rfl) ⟨Nat.le_refl _, Nat.le_refl _⟩ (by decide) ⟨Nat.le_of_ble_eq_true rfl, Nat.le_of_ble_eq_true rfl⟩ ?_
    refine V_iret dX7_days_23 rfl (Nat.le_of_ble_eq_true rfl) (Nat.le_of_ble_eq_true rfl) ?_
    exact ⟨hS, rfl, rfl⟩
  ·
    refine V_aload_n (i := 0) dX7_days_0 rfl rfl ?_
    refine V_getf fl_X7_31 dX7_days_1 (hp0 hA) rfl ?_
    refine V_aload_n (i := 0) dX7_days_4 rfl rfl ?_
    refine V_getf fl_X7_20 dX7_days_5 (hp0 hA) rfl ?_
    refine Cv0_1 (d := 4) cv_X7_59 dX7_days_8 (t_X2_note hA hnx hx9 hb) (hp3 hA) rfl rfl (Nat.le_of_ble_eq_true rfl) ⟨Nat.le_refl _, Nat.le_refl _⟩ (by decide) ⟨Nat.le_of_ble_eq_true rfl, Nat.le_of_ble_eq_true rfl⟩ ?_
    show V _ _ _ _ _ _ _ _ _ _ _ _ _ _ (HP A (ntd σ nx)) _ _
    refine V_aload_n (i := 0) dX7_days_11 rfl rfl ?_
    refine V_aload_n (i := 0) dX7_days_12 rfl rfl ?_
    refine V_getf fl_X7_10 dX7_days_13 (hp0 hA) rfl ?_
    refine V_iload_n (i := 1) dX7_days_16 rfl rfl ?_
    refine Cv1_1 (d := 4) cv_X7_102 dX7_days_17 (t_X6_passDays hA (by rw [ntd_0]; exact h1) hn (by rw [ntd_0]; exact h2) hm) (hp1 hA) rfl rfl (Nat.le_of_ble_eq_true rfl) ⟨Nat.le_refl _, Nat.le_refl _⟩ (by decide) ⟨Nat.le_of_ble_eq_true rfl, Nat.le_of_ble_eq_true rfl⟩ ?_
    rw [ntd_0, show wA (S_days (σ.1 5 0) nh nc a) = -1 from if_neg hS, show wS (ntd σ nx) (S_days (σ.1 5 0) nh nc a) = rfz (ntd σ nx) (S_days (σ.1 5 0) nh nc a).1.1 (S_days (σ.1 5 0) nh nc a).1.2 from if_neg hS]
    refine CvX1 (d := 4) cv_X7_67 dX7_days_20 (t_X7_settled_n hA hl) (hp0 hA) rfl rfl (Nat.le_of_ble_eq_true rfl) ⟨Nat.le_refl _, Nat.le_refl _⟩ (by decide) ⟨Nat.le_of_ble_eq_true rfl, Nat.le_of_ble_eq_true rfl⟩ ?_
    exact VX_out rfl (Nat.le_of_ble_eq_true rfl) (Nat.le_of_ble_eq_true rfl) ⟨hS, rfl, rfl⟩
