/-! small methods of both sides -/
def bi (b : Bool) : Int32 := if b then 1 else 0
theorem bi_n (b : Bool) : narrow .boolean (.int (bi b)) = .int (bi b) := by cases b <;> rfl
theorem bi_0 {b : Bool} : bi b = 0 ↔ b = false := by cases b <;> simp [bi]
theorem bi_1 {b : Bool} : ¬ bi b = 0 ↔ b = true := by cases b <;> simp [bi]
/-- outside of low to high -/
def ob (x a b : Int32) : Bool := decide (x < a) || decide (b < x)
theorem nlt_le {x y : Int32} (h : ¬ x < y) : y ≤ x := Int32.not_lt.mp h
theorem nle_lt {x y : Int32} (h : ¬ x ≤ y) : y < x := Int32.not_le.mp h

set_option maxHeartbeats 4000000 in
set_option maxRecDepth 100000 in
theorem t_X4_refuse {D : va_G} {s0 : State} {l : Launch} {B : Nat} {A : AT} {σ : Sg} (hA : AOK B A) {w e : Int32} : Tri D s0 l yX4_refuse cX4_refuse 3 ((some .int)) 0 0 0 [.ref (A 2 0 0), .int w, .int e] (HP A σ) (fun r G' => r = some (.int (-1)) ∧ G' = HP A (w3 (w3 (w3 σ 2 0 0 w) 2 0 1 e) 2 0 2 0)) noX := by
  refine Tri.ofV (own := RX4) (mn := "refuse") (by decide +kernel) rfl rfl (Nat.le_of_ble_eq_true rfl) ?_
  refine V_aload_n (i := 0) dX4_refuse_0 rfl rfl ?_
  refine V_iload_n (i := 1) dX4_refuse_1 rfl rfl ?_
  refine VP_2_0 fl_X4_9 dX4_refuse_2 hA ?_
  refine V_aload_n (i := 0) dX4_refuse_5 rfl rfl ?_
  refine V_iload_n (i := 2) dX4_refuse_6 rfl rfl ?_
  refine VP_2_1 fl_X4_15 dX4_refuse_7 hA ?_
  refine V_aload_n (i := 0) dX4_refuse_10 rfl rfl ?_
  refine V_iconst (v := 0) dX4_refuse_11 (by decide) ?_
  refine VP_2_2 fl_X4_18 dX4_refuse_12 hA ?_
  refine V_iconst (v := (-1)) dX4_refuse_15 (by decide) ?_
  refine V_iret dX4_refuse_16 rfl (Nat.le_of_ble_eq_true rfl) (Nat.le_of_ble_eq_true rfl) ?_
  exact ⟨rfl, rfl⟩

set_option maxHeartbeats 4000000 in
set_option maxRecDepth 100000 in
theorem t_X7_isOutside {D : va_G} {s0 : State} {l : Launch} {B : Nat} {A : AT} {σ : Sg} (hA : AOK B A) {x a b : Int32} : Tri D s0 l yX7_isOutside cX7_isOutside 3 ((some .boolean)) 0 0 0 [.int x, .int a, .int b] (HP A σ) (fun r G' => r = some (.int (bi (ob x a b))) ∧ G' = HP A σ) noX := by
  refine Tri.ofV (own := RX7) (mn := "isOutside") (by decide +kernel) rfl rfl (Nat.le_of_ble_eq_true rfl) ?_
  refine V_iload_n (i := 0) dX7_isOutside_0 rfl rfl ?_
  refine V_iload_n (i := 1) dX7_isOutside_1 rfl rfl ?_
  refine V_icmp_lt (tgt := 10) dX7_isOutside_2 (by decide) (fun h2 => ?_) (fun h2 => ?_)
  · refine V_iconst (v := 1) dX7_isOutside_10 (by decide) ?_
    refine V_goto (tgt := 15) dX7_isOutside_11 (by decide) ?_
    refine V_zret dX7_isOutside_15 rfl (by first | rfl | exact bi_n _) (Nat.le_of_ble_eq_true rfl) (Nat.le_of_ble_eq_true rfl) ?_
    exact ⟨by simp_all [bi, ob], rfl⟩
  · refine V_iload_n (i := 0) dX7_isOutside_5 rfl rfl ?_
    refine V_iload_n (i := 2) dX7_isOutside_6 rfl rfl ?_
    refine V_icmp_le (tgt := 14) dX7_isOutside_7 (by decide) (fun h7 => ?_) (fun h7 => ?_)
    · refine V_iconst (v := 0) dX7_isOutside_14 (by decide) ?_
      refine V_zret dX7_isOutside_15 rfl (by first | rfl | exact bi_n _) (Nat.le_of_ble_eq_true rfl) (Nat.le_of_ble_eq_true rfl) ?_
      exact ⟨by simp_all [bi, ob], rfl⟩
    · refine V_iconst (v := 1) dX7_isOutside_10 (by decide) ?_
      refine V_goto (tgt := 15) dX7_isOutside_11 (by decide) ?_
      refine V_zret dX7_isOutside_15 rfl (by first | rfl | exact bi_n _) (Nat.le_of_ble_eq_true rfl) (Nat.le_of_ble_eq_true rfl) ?_
      exact ⟨by simp_all [bi, ob], rfl⟩


