/-! the reference's questions, the rest -/
theorem b63 (r : UInt64) : (r &&& 0x7fffffffffffffff).toNat = r.toNat % 2 ^ 63 := by
  rw [UInt64.toNat_and]
  exact Nat.and_two_pow_sub_one_eq_mod r.toNat 63
theorem b31 (r : UInt32) : (r &&& 0x7fffffff).toNat = r.toNat % 2 ^ 31 := by
  rw [UInt32.toNat_and]
  exact Nat.and_two_pow_sub_one_eq_mod r.toNat 31
theorem n64_of {r : UInt64} (h : r.toNat % 2 ^ 63 < 2047 * 2 ^ 52) : vf_n64 r := by
  unfold vf_n64
  rw [UInt64.le_iff_toNat_le, b63]
  have : (0x7ff0000000000000 : UInt64).toNat = 2047 * 2 ^ 52 := by decide
  omega
theorem n32_of {r : UInt32} (h : r.toNat % 2 ^ 31 < 255 * 2 ^ 23) : vf_n32 r := by
  unfold vf_n32
  rw [UInt32.le_iff_toNat_le, b31]
  have : (0x7f800000 : UInt32).toNat = 255 * 2 ^ 23 := by decide
  omega
theorem fdiv_mg {x y : Int32} (hy : ¬ y = 0) : (FP.fdiv (FP.i2f x) (FP.i2f y)).toNat % 2 ^ 31 < 255 * 2 ^ 23 := by
  have h := FP.Core.fdiv_mag (K := 160) (L := 127) (FP.Core.i2f_mag x) (FP.Core.i2f_big (FP.Core.int32_ne hy)).1 (FP.Core.i2f_big (FP.Core.int32_ne hy)).2 (by decide) (by decide)
  exact Nat.lt_of_lt_of_le h (by decide)
theorem fdiv_n {x y : Int32} (hy : ¬ y = 0) : vf_n32 (FP.fdiv (FP.i2f x) (FP.i2f y)) := n32_of (fdiv_mg hy)
theorem ddiv_n {x y : Int32} (hy : ¬ y = 0) : vf_n64 (FP.ddiv (FP.i2d x) (FP.i2d y)) := by
  have h := FP.Core.ddiv_mag (K := 1056) (L := 1023) (FP.Core.i2d_mag x) (FP.Core.i2d_big (FP.Core.int32_ne hy)).1 (FP.Core.i2d_big (FP.Core.int32_ne hy)).2 (by decide) (by decide)
  exact n64_of (Nat.lt_of_lt_of_le h (by decide))
def meanV (u : Nat → Int32) (nh : Nat) : UInt32 := if u 1 = 0 then FP.fconst0 else FP.fdiv (FP.i2f (S_sum u nh 4)) (FP.i2f (u 1))
def shareV (u : Nat → Int32) (nh : Nat) : UInt64 := if u 7 + S_sum u nh 4 = 0 then FP.dconst0 else FP.ddiv (FP.i2d (u 7)) (FP.i2d (u 7 + S_sum u nh 4))

set_option maxHeartbeats 4000000 in
set_option maxRecDepth 100000 in
theorem t_X8_isAhead {D : va_G} {s0 : State} {l : Launch} {B : Nat} {A : AT} {σ : Sg} (hA : AOK B A) {P : Int32 × Int32} {u : Nat → Int32} {nh : Nat} (hn8 : nh ≤ 8) (hbd : ∀ h, h < nh → (∃ p, p < 1000 ∧ u (hx h 4) = nI p) ∧ ∃ p, p < 1000 ∧ u (hx h 3) = nI p) {h g : Nat} (hh : h < nh) (hg : g < nh) : Tri D s0 l yX8_isAhead cX8_isAhead 5 ((some .boolean)) 1 0 0 [.ref (A 20 0 0), .int (nI h), .int (nI g)] (HP A (rs σ P u)) (fun r G' => r = some (.int (bi (S_ahead u h g))) ∧ G' = HP A (rs σ P u)) noX := by
  obtain ⟨⟨p1, hp1, e1⟩, q1, hq1, f1⟩ := hbd h hh
  obtain ⟨⟨p2, hp2, e2⟩, q2, hq2, f2⟩ := hbd g hg
  refine Tri.ofV (own := RX8) (mn := "isAhead") (by decide +kernel) rfl rfl (Nat.le_of_ble_eq_true rfl) ?_
  refine V_aload_n (i := 0) dX8_isAhead_0 rfl rfl ?_
  refine V_iload_n (i := 1) dX8_isAhead_1 rfl rfl ?_
  refine V_iconst (v := nI 4) dX8_isAhead_2 (by decide) ?_
  refine Cv1_2 (d := 1) cv_X8_74 dX8_isAhead_3 (t_X8_of hA (by omega) (by decide)) (hp20 hA) rfl rfl (Nat.le_of_ble_eq_true rfl) ⟨Nat.le_refl _, Nat.le_refl _⟩ (by decide) ⟨Nat.le_of_ble_eq_true rfl, Nat.le_of_ble_eq_true rfl⟩ ?_
  refine V_aload_n (i := 0) dX8_isAhead_6 rfl rfl ?_
  refine V_iload_n (i := 2) dX8_isAhead_7 rfl rfl ?_
  refine V_iconst (v := nI 4) dX8_isAhead_8 (by decide) ?_
  refine Cv1_2 (d := 1) cv_X8_74 dX8_isAhead_9 (t_X8_of hA (by omega) (by decide)) (hp20 hA) rfl rfl (Nat.le_of_ble_eq_true rfl) ⟨Nat.le_refl _, Nat.le_refl _⟩ (by decide) ⟨Nat.le_of_ble_eq_true rfl, Nat.le_of_ble_eq_true rfl⟩ ?_
  refine V_isub dX8_isAhead_12 ?_
  refine V_istore_n (i := 3) dX8_isAhead_13 rfl (by decide) ?_
  refine V_aload_n (i := 0) dX8_isAhead_14 rfl rfl ?_
  refine V_iload_n (i := 1) dX8_isAhead_15 rfl rfl ?_
  refine V_iconst (v := nI 3) dX8_isAhead_16 (by decide) ?_
  refine Cv1_2 (d := 1) cv_X8_74 dX8_isAhead_17 (t_X8_of hA (by omega) (by decide)) (hp20 hA) rfl rfl (Nat.le_of_ble_eq_true rfl) ⟨Nat.le_refl _, Nat.le_refl _⟩ (by decide) ⟨Nat.le_of_ble_eq_true rfl, Nat.le_of_ble_eq_true rfl⟩ ?_
  refine V_aload_n (i := 0) dX8_isAhead_20 rfl rfl ?_
  refine V_iload_n (i := 2) dX8_isAhead_21 rfl rfl ?_
  refine V_iconst (v := nI 3) dX8_isAhead_22 (by decide) ?_
  refine Cv1_2 (d := 1) cv_X8_74 dX8_isAhead_23 (t_X8_of hA (by omega) (by decide)) (hp20 hA) rfl rfl (Nat.le_of_ble_eq_true rfl) ⟨Nat.le_refl _, Nat.le_refl _⟩ (by decide) ⟨Nat.le_of_ble_eq_true rfl, Nat.le_of_ble_eq_true rfl⟩ ?_
  refine V_isub dX8_isAhead_26 ?_
  refine V_istore (i := 4) dX8_isAhead_27 (by decide) ?_
  refine V_iload_n (i := 3) dX8_isAhead_29 rfl rfl ?_
  refine V_if_eq (tgt := 45) dX8_isAhead_30 (by decide) (fun h30 => ?_) (fun h30 => ?_)
  · replace h30 : p1 = p2 := by rw [sub0, e1, e2, nI_eq (by omega) (by omega)] at h30; exact h30
    refine V_iload (i := 4) dX8_isAhead_45 rfl ?_
    refine V_if_eq (tgt := 63) dX8_isAhead_47 (by decide) (fun h47 => ?_) (fun h47 => ?_)
    · replace h47 : q1 = q2 := by rw [sub0, f1, f2, nI_eq (by omega) (by omega)] at h47; exact h47
      refine V_iload_n (i := 1) dX8_isAhead_63 rfl rfl ?_
      refine V_iload_n (i := 2) dX8_isAhead_64 rfl rfl ?_
      refine V_icmp_ge (tgt := 72) dX8_isAhead_65 (by decide) (fun h65 => ?_) (fun h65 => ?_)
      · rw [nI_leI (by omega) (by omega)] at h65
        refine V_iconst (v := 0) dX8_isAhead_72 (by decide) ?_
        refine V_zret dX8_isAhead_73 rfl (by first | rfl | exact bi_n _) (Nat.le_of_ble_eq_true rfl) (Nat.le_of_ble_eq_true rfl) ?_
        refine ⟨congrArg (fun z => some (Value.int z)) ?_, rfl⟩
        have A0 : (u (hx h 4) = u (hx g 4)) ↔ p1 = p2 := by rw [e1, e2]; exact nI_eq (by omega) (by omega)
        have B0 : (u (hx h 3) = u (hx g 3)) ↔ q1 = q2 := by rw [f1, f2]; exact nI_eq (by omega) (by omega)
        have A1 : (u (hx g 4) < u (hx h 4)) ↔ p2 < p1 := by rw [e1, e2]; exact nI_ltI (by omega) (by omega)
        have B1 : (u (hx g 3) < u (hx h 3)) ↔ q2 < q1 := by rw [f1, f2]; exact nI_ltI (by omega) (by omega)
        simp only [S_ahead, A0, B0, A1, B1]
        first
          | (rw [if_neg h30, decide_eq_true h34]; rfl)
          | (rw [if_neg h30, decide_eq_false h34]; rfl)
          | (rw [if_pos h30, if_neg h47, decide_eq_true h52]; rfl)
          | (rw [if_pos h30, if_neg h47, decide_eq_false h52]; rfl)
          | (rw [if_pos h30, if_pos h47, decide_eq_true (by omega)]; rfl)
          | (rw [if_pos h30, if_pos h47, decide_eq_false (by omega)]; rfl)
      · rw [nI_leI (by omega) (by omega)] at h65
        refine V_iconst (v := 1) dX8_isAhead_68 (by decide) ?_
        refine V_goto (tgt := 73) dX8_isAhead_69 (by decide) ?_
        refine V_zret dX8_isAhead_73 rfl (by first | rfl | exact bi_n _) (Nat.le_of_ble_eq_true rfl) (Nat.le_of_ble_eq_true rfl) ?_
        refine ⟨congrArg (fun z => some (Value.int z)) ?_, rfl⟩
        have A0 : (u (hx h 4) = u (hx g 4)) ↔ p1 = p2 := by rw [e1, e2]; exact nI_eq (by omega) (by omega)
        have B0 : (u (hx h 3) = u (hx g 3)) ↔ q1 = q2 := by rw [f1, f2]; exact nI_eq (by omega) (by omega)
        have A1 : (u (hx g 4) < u (hx h 4)) ↔ p2 < p1 := by rw [e1, e2]; exact nI_ltI (by omega) (by omega)
        have B1 : (u (hx g 3) < u (hx h 3)) ↔ q2 < q1 := by rw [f1, f2]; exact nI_ltI (by omega) (by omega)
        simp only [S_ahead, A0, B0, A1, B1]
        first
          | (rw [if_neg h30, decide_eq_true h34]; rfl)
          | (rw [if_neg h30, decide_eq_false h34]; rfl)
          | (rw [if_pos h30, if_neg h47, decide_eq_true h52]; rfl)
          | (rw [if_pos h30, if_neg h47, decide_eq_false h52]; rfl)
          | (rw [if_pos h30, if_pos h47, decide_eq_true (by omega)]; rfl)
          | (rw [if_pos h30, if_pos h47, decide_eq_false (by omega)]; rfl)
    · replace h47 : ¬ q1 = q2 := by rw [sub0, f1, f2, nI_eq (by omega) (by omega)] at h47; exact h47
      refine V_iload (i := 4) dX8_isAhead_50 rfl ?_
      refine V_if_le (tgt := 59) dX8_isAhead_52 (by decide) (fun h52 => ?_) (fun h52 => ?_)
      · replace h52 : ¬ q2 < q1 := by have z := Int32.not_lt.mpr h52; rw [f1, f2, subp (by omega) (by omega)] at z; exact z
        refine V_iconst (v := 0) dX8_isAhead_59 (by decide) ?_
        refine V_goto (tgt := 73) dX8_isAhead_60 (by decide) ?_
        refine V_zret dX8_isAhead_73 rfl (by first | rfl | exact bi_n _) (Nat.le_of_ble_eq_true rfl) (Nat.le_of_ble_eq_true rfl) ?_
        refine ⟨congrArg (fun z => some (Value.int z)) ?_, rfl⟩
        have A0 : (u (hx h 4) = u (hx g 4)) ↔ p1 = p2 := by rw [e1, e2]; exact nI_eq (by omega) (by omega)
        have B0 : (u (hx h 3) = u (hx g 3)) ↔ q1 = q2 := by rw [f1, f2]; exact nI_eq (by omega) (by omega)
        have A1 : (u (hx g 4) < u (hx h 4)) ↔ p2 < p1 := by rw [e1, e2]; exact nI_ltI (by omega) (by omega)
        have B1 : (u (hx g 3) < u (hx h 3)) ↔ q2 < q1 := by rw [f1, f2]; exact nI_ltI (by omega) (by omega)
        simp only [S_ahead, A0, B0, A1, B1]
        first
          | (rw [if_neg h30, decide_eq_true h34]; rfl)
          | (rw [if_neg h30, decide_eq_false h34]; rfl)
          | (rw [if_pos h30, if_neg h47, decide_eq_true h52]; rfl)
          | (rw [if_pos h30, if_neg h47, decide_eq_false h52]; rfl)
          | (rw [if_pos h30, if_pos h47, decide_eq_true (by omega)]; rfl)
          | (rw [if_pos h30, if_pos h47, decide_eq_false (by omega)]; rfl)
      · replace h52 : q2 < q1 := by have z := Int32.not_le.mp h52; rw [f1, f2, subp (by omega) (by omega)] at z; exact z
        refine V_iconst (v := 1) dX8_isAhead_55 (by decide) ?_
        refine V_goto (tgt := 73) dX8_isAhead_56 (by decide) ?_
        refine V_zret dX8_isAhead_73 rfl (by first | rfl | exact bi_n _) (Nat.le_of_ble_eq_true rfl) (Nat.le_of_ble_eq_true rfl) ?_
        refine ⟨congrArg (fun z => some (Value.int z)) ?_, rfl⟩
        have A0 : (u (hx h 4) = u (hx g 4)) ↔ p1 = p2 := by rw [e1, e2]; exact nI_eq (by omega) (by omega)
        have B0 : (u (hx h 3) = u (hx g 3)) ↔ q1 = q2 := by rw [f1, f2]; exact nI_eq (by omega) (by omega)
        have A1 : (u (hx g 4) < u (hx h 4)) ↔ p2 < p1 := by rw [e1, e2]; exact nI_ltI (by omega) (by omega)
        have B1 : (u (hx g 3) < u (hx h 3)) ↔ q2 < q1 := by rw [f1, f2]; exact nI_ltI (by omega) (by omega)
        simp only [S_ahead, A0, B0, A1, B1]
        first
          | (rw [if_neg h30, decide_eq_true h34]; rfl)
          | (rw [if_neg h30, decide_eq_false h34]; rfl)
          | (rw [if_pos h30, if_neg h47, decide_eq_true h52]; rfl)
          | (rw [if_pos h30, if_neg h47, decide_eq_false h52]; rfl)
          | (rw [if_pos h30, if_pos h47, decide_eq_true (by omega)]; rfl)
          | (rw [if_pos h30, if_pos h47, decide_eq_false (by omega)]; rfl)
  · replace h30 : ¬ p1 = p2 := by rw [sub0, e1, e2, nI_eq (by omega) (by omega)] at h30; exact h30
    refine V_iload_n (i := 3) dX8_isAhead_33 rfl rfl ?_
    refine V_if_le (tgt := 41) dX8_isAhead_34 (by decide) (fun h34 => ?_) (fun h34 => ?_)
    · replace h34 : ¬ p2 < p1 := by have z := Int32.not_lt.mpr h34; rw [e1, e2, subp (by omega) (by omega)] at z; exact z
      refine V_iconst (v := 0) dX8_isAhead_41 (by decide) ?_
      refine V_goto (tgt := 73) dX8_isAhead_42 (by decide) ?_
      refine V_zret dX8_isAhead_73 rfl (by first | rfl | exact bi_n _) (Nat.le_of_ble_eq_true rfl) (Nat.le_of_ble_eq_true rfl) ?_
      refine ⟨congrArg (fun z => some (Value.int z)) ?_, rfl⟩
      have A0 : (u (hx h 4) = u (hx g 4)) ↔ p1 = p2 := by rw [e1, e2]; exact nI_eq (by omega) (by omega)
      have B0 : (u (hx h 3) = u (hx g 3)) ↔ q1 = q2 := by rw [f1, f2]; exact nI_eq (by omega) (by omega)
      have A1 : (u (hx g 4) < u (hx h 4)) ↔ p2 < p1 := by rw [e1, e2]; exact nI_ltI (by omega) (by omega)
      have B1 : (u (hx g 3) < u (hx h 3)) ↔ q2 < q1 := by rw [f1, f2]; exact nI_ltI (by omega) (by omega)
      simp only [S_ahead, A0, B0, A1, B1]
      first
        | (rw [if_neg h30, decide_eq_true h34]; rfl)
        | (rw [if_neg h30, decide_eq_false h34]; rfl)
        | (rw [if_pos h30, if_neg h47, decide_eq_true h52]; rfl)
        | (rw [if_pos h30, if_neg h47, decide_eq_false h52]; rfl)
        | (rw [if_pos h30, if_pos h47, decide_eq_true (by omega)]; rfl)
        | (rw [if_pos h30, if_pos h47, decide_eq_false (by omega)]; rfl)
    · replace h34 : p2 < p1 := by have z := Int32.not_le.mp h34; rw [e1, e2, subp (by omega) (by omega)] at z; exact z
      refine V_iconst (v := 1) dX8_isAhead_37 (by decide) ?_
      refine V_goto (tgt := 73) dX8_isAhead_38 (by decide) ?_
      refine V_zret dX8_isAhead_73 rfl (by first | rfl | exact bi_n _) (Nat.le_of_ble_eq_true rfl) (Nat.le_of_ble_eq_true rfl) ?_
      refine ⟨congrArg (fun z => some (Value.int z)) ?_, rfl⟩
      have A0 : (u (hx h 4) = u (hx g 4)) ↔ p1 = p2 := by rw [e1, e2]; exact nI_eq (by omega) (by omega)
      have B0 : (u (hx h 3) = u (hx g 3)) ↔ q1 = q2 := by rw [f1, f2]; exact nI_eq (by omega) (by omega)
      have A1 : (u (hx g 4) < u (hx h 4)) ↔ p2 < p1 := by rw [e1, e2]; exact nI_ltI (by omega) (by omega)
      have B1 : (u (hx g 3) < u (hx h 3)) ↔ q2 < q1 := by rw [f1, f2]; exact nI_ltI (by omega) (by omega)
      simp only [S_ahead, A0, B0, A1, B1]
      first
        | (rw [if_neg h30, decide_eq_true h34]; rfl)
        | (rw [if_neg h30, decide_eq_false h34]; rfl)
        | (rw [if_pos h30, if_neg h47, decide_eq_true h52]; rfl)
        | (rw [if_pos h30, if_neg h47, decide_eq_false h52]; rfl)
        | (rw [if_pos h30, if_pos h47, decide_eq_true (by omega)]; rfl)
        | (rw [if_pos h30, if_pos h47, decide_eq_false (by omega)]; rfl)

set_option maxHeartbeats 4000000 in
set_option maxRecDepth 100000 in
theorem t_X8_ranked {D : va_G} {s0 : State} {l : Launch} {B : Nat} {A : AT} {σ : Sg} (hA : AOK B A) {P : Int32 × Int32} {u : Nat → Int32} {nh : Nat} (h1 : u 1 = nI nh) (hn8 : nh ≤ 8) (hbd : ∀ h, h < nh → (∃ p, p < 1000 ∧ u (hx h 4) = nI p) ∧ ∃ p, p < 1000 ∧ u (hx h 3) = nI p) {x : Int32} : Tri D s0 l yX8_ranked cX8_ranked 6 ((some .int)) 2 0 0 [.ref (A 20 0 0), .int x] (HP A (rs σ P u)) (fun r G' => r = some (.int (KR_ranked u nh x).2) ∧ G' = HP A (rs (tS σ (nI (KR_ranked u nh x).1)) P u)) noX := by
  refine Tri.ofV (own := RX8) (mn := "ranked") (by decide +kernel) rfl rfl (Nat.le_of_ble_eq_true rfl) ?_
  have loop : ∀ n i : Nat, i + n = nh → V D s0 RX8 "ranked" cX8_ranked 6 ((some .int)) [] l (rmd 2 0 0) (Zm D s0 0 0 (fun r G' => r = some (.int (KR_ranked u nh x).2) ∧ G' = HP A (rs (tS σ (nI (KR_ranked u nh x).1)) P u)) noX) 4 [(0, .ref (A 20 0 0)), (1, .int x), (2, .int (R_fd u nh x i)), (3, .int (nI i))] [] (HP A (rs σ P u)) 0 0 := by
    intro n
    induction n with
    | zero =>
      intro i hi9
      obtain rfl : i = nh := by omega
      refine V_iload_n (i := 3) dX8_ranked_4 rfl rfl ?_
      refine V_aload_n (i := 0) dX8_ranked_5 rfl rfl ?_
      refine V_getf fl_X8_9 dX8_ranked_6 (hp20 hA) rfl ?_
      refine V_iconst (v := nI 1) dX8_ranked_9 (by decide) ?_
      refine VL_21 dX8_ranked_10 hA rfl (by omega) ?_
      refine V_icmp_ge (tgt := 81) dX8_ranked_11 (by decide) (fun _ => ?_) (fun h11 => by first | exact absurd (by rw [h1]; exact nI_le (Nat.le_refl _) (by omega)) h11 | exact absurd h11 (by rw [h1]; exact nI_le (Nat.le_refl _) (by omega)))
      refine V_aload_n (i := 0) dX8_ranked_81 rfl rfl ?_
      refine V_iload_n (i := 2) dX8_ranked_82 rfl rfl ?_
      refine V_iconst (v := (-1)) dX8_ranked_83 (by decide) ?_
      refine V_icmp_ne (tgt := 91) dX8_ranked_84 (by decide) (fun h84 => ?_) (fun h84 => ?_)
      · refine V_iconst (v := 0) dX8_ranked_91 (by decide) ?_
        refine VP6 fl_X8_38 dX8_ranked_92 hA ?_
        refine V_aload_n (i := 0) dX8_ranked_95 rfl rfl ?_
        refine V_getf fl_X8_38 dX8_ranked_96 (hp20 hA) rfl ?_
        refine V_if_ne (tgt := 106) dX8_ranked_99 (by decide) (fun h99 => by first | exact absurd h99 ((by rw [rs_6]; decide)) | exact absurd ((by rw [rs_6]; decide)) h99) (fun _ => ?_)
        refine V_iload_n (i := 2) dX8_ranked_102 rfl rfl ?_
        refine V_goto (tgt := 107) dX8_ranked_103 (by decide) ?_
        refine V_iret dX8_ranked_107 rfl (Nat.le_of_ble_eq_true rfl) (Nat.le_of_ble_eq_true rfl) ?_
        refine kfin ?_ rfl
        first
          | (rw [KR_ranked, if_pos (Classical.not_not.mp h84)]; done)
          | (rw [KR_ranked, if_pos h84]; done)
          | (rw [KR_ranked, if_neg h84]; done)
      · refine V_iconst (v := 1) dX8_ranked_87 (by decide) ?_
        refine V_goto (tgt := 92) dX8_ranked_88 (by decide) ?_
        refine VP6 fl_X8_38 dX8_ranked_92 hA ?_
        refine V_aload_n (i := 0) dX8_ranked_95 rfl rfl ?_
        refine V_getf fl_X8_38 dX8_ranked_96 (hp20 hA) rfl ?_
        refine V_if_ne (tgt := 106) dX8_ranked_99 (by decide) (fun _ => ?_) (fun h99 => by first | exact absurd ((by rw [rs_6]; decide)) h99 | exact absurd h99 ((by rw [rs_6]; decide)))
        refine V_iconst (v := 0) dX8_ranked_106 (by decide) ?_
        refine V_iret dX8_ranked_107 rfl (Nat.le_of_ble_eq_true rfl) (Nat.le_of_ble_eq_true rfl) ?_
        refine kfin ?_ rfl
        first
          | (rw [KR_ranked, if_pos (Classical.not_not.mp h84)]; done)
          | (rw [KR_ranked, if_pos h84]; done)
          | (rw [KR_ranked, if_neg h84]; done)
    | succ n ih =>
      intro i hi9
      have kx : V D s0 RX8 "ranked" cX8_ranked 6 ((some .int)) [] l (rmd 2 0 0) (Zm D s0 0 0 (fun r G' => r = some (.int (KR_ranked u nh x).2) ∧ G' = HP A (rs (tS σ (nI (KR_ranked u nh x).1)) P u)) noX) 63 [(0, .ref (A 20 0 0)), (1, .int x), (2, .int (R_fd u nh x i)), (3, .int (nI i)), (4, .int (S_cnt u nh i))] [] (HP A (rs σ P u)) 0 0 := by
        have k9 := ih (i + 1) (by omega)
        refine V_iload (i := 4) dX8_ranked_63 rfl ?_
        refine V_iload_n (i := 1) dX8_ranked_65 rfl rfl ?_
        refine V_icmp_ne (tgt := 73) dX8_ranked_66 (by decide) (fun h66 => ?_) (fun h66 => ?_)
        · rw [R_fd, if_neg h66] at k9
          refine V_iload_n (i := 2) dX8_ranked_73 rfl rfl ?_
          refine V_istore_n (i := 2) dX8_ranked_74 rfl (by decide) ?_
          refine V_iinc (i := 3) dX8_ranked_75 rfl (inc1 _) (by decide) ?_
          refine V_goto (tgt := 4) dX8_ranked_78 (by decide) ?_
          exact V.fin [2, 3, 1, 0] rfl rfl k9
        · rw [R_fd, if_pos h66] at k9
          refine V_iload_n (i := 3) dX8_ranked_69 rfl rfl ?_
          refine V_goto (tgt := 74) dX8_ranked_70 (by decide) ?_
          refine V_istore_n (i := 2) dX8_ranked_74 rfl (by decide) ?_
          refine V_iinc (i := 3) dX8_ranked_75 rfl (inc1 _) (by decide) ?_
          refine V_goto (tgt := 4) dX8_ranked_78 (by decide) ?_
          exact V.fin [2, 3, 1, 0] rfl rfl k9
      have inner : ∀ n jj : Nat, jj + n = nh → V D s0 RX8 "ranked" cX8_ranked 6 ((some .int)) [] l (rmd 2 0 0) (Zm D s0 0 0 (fun r G' => r = some (.int (KR_ranked u nh x).2) ∧ G' = HP A (rs (tS σ (nI (KR_ranked u nh x).1)) P u)) noX) 20 [(0, .ref (A 20 0 0)), (1, .int x), (2, .int (R_fd u nh x i)), (3, .int (nI i)), (4, .int (sm (fun j => bi (S_ahead u j i)) jj)), (5, .int (nI jj))] [] (HP A (rs σ P u)) 0 0 := by
        intro n
        induction n with
        | zero =>
          intro jj hi9
          obtain rfl : nh = jj := by omega
          refine V_iload (i := 5) dX8_ranked_20 rfl ?_
          refine V_aload_n (i := 0) dX8_ranked_22 rfl rfl ?_
          refine V_getf fl_X8_9 dX8_ranked_23 (hp20 hA) rfl ?_
          refine V_iconst (v := nI 1) dX8_ranked_26 (by decide) ?_
          refine VL_21 dX8_ranked_27 hA rfl (by omega) ?_
          refine V_icmp_ge (tgt := 63) dX8_ranked_28 (by decide) (fun _ => ?_) (fun h28 => by first | exact absurd (by rw [h1]; exact nI_le (Nat.le_refl _) (by omega)) h28 | exact absurd h28 (by rw [h1]; exact nI_le (Nat.le_refl _) (by omega)))
          exact V.fin [0, 1, 2, 3, 4] rfl rfl kx
        | succ n ih =>
          intro jj hi9
          have k9 := ih (jj + 1) (by omega)
          have hi8 : jj < nh := by omega
          refine V_iload (i := 5) dX8_ranked_20 rfl ?_
          refine V_aload_n (i := 0) dX8_ranked_22 rfl rfl ?_
          refine V_getf fl_X8_9 dX8_ranked_23 (hp20 hA) rfl ?_
          refine V_iconst (v := nI 1) dX8_ranked_26 (by decide) ?_
          refine VL_21 dX8_ranked_27 hA rfl (by omega) ?_
          refine V_icmp_ge (tgt := 63) dX8_ranked_28 (by decide) (fun h28 => by first | exact absurd h28 (by rw [h1]; exact nI_ge (by omega) (by omega)) | exact absurd (by rw [h1]; exact nI_ge (by omega) (by omega)) h28) (fun _ => ?_)
          refine V_iload (i := 4) dX8_ranked_31 rfl ?_
          refine V_iload (i := 5) dX8_ranked_33 rfl ?_
          refine V_iload_n (i := 3) dX8_ranked_35 rfl rfl ?_
          refine V_icmp_eq (tgt := 53) dX8_ranked_36 (by decide) (fun h36 => ?_) (fun h36 => ?_)
          · have e36 : jj = i := (nI_eq (by omega) (by omega)).mp h36
            have e9 : sm (fun j => bi (S_ahead u j i)) jj + 0 = sm (fun j => bi (S_ahead u j i)) (jj + 1) := by rw [sm, e36, S_ahead_self]; rfl
            refine V_iconst (v := 0) dX8_ranked_53 (by decide) ?_
            refine V_iadd dX8_ranked_54 ?_
            refine V_istore (i := 4) dX8_ranked_55 (by decide) ?_
            refine V_iinc (i := 5) dX8_ranked_57 rfl (inc1 _) (by decide) ?_
            refine V_goto (tgt := 20) dX8_ranked_60 (by decide) ?_
            rw [← e9] at k9
            exact V.fin [2, 3, 4, 5, 1, 0] rfl rfl k9
          · refine V_aload_n (i := 0) dX8_ranked_39 rfl rfl ?_
            refine V_iload (i := 5) dX8_ranked_40 rfl ?_
            refine V_iload_n (i := 3) dX8_ranked_42 rfl rfl ?_
            refine Cv1_2 (d := 2) cv_X8_168 dX8_ranked_43 (t_X8_isAhead hA hn8 hbd (by omega) (by omega)) (hp20 hA) rfl rfl (Nat.le_of_ble_eq_true rfl) ⟨Nat.le_refl _, Nat.le_refl _⟩ (by decide) ⟨Nat.le_of_ble_eq_true rfl, Nat.le_of_ble_eq_true rfl⟩ ?_
            refine V_if_eq (tgt := 53) dX8_ranked_46 (by decide) (fun h46 => ?_) (fun h46 => ?_)
            · replace h46 := bi_0.mp h46
              have e9 : sm (fun j => bi (S_ahead u j i)) jj + 0 = sm (fun j => bi (S_ahead u j i)) (jj + 1) := by rw [sm, h46]; rfl
              refine V_iconst (v := 0) dX8_ranked_53 (by decide) ?_
              refine V_iadd dX8_ranked_54 ?_
              refine V_istore (i := 4) dX8_ranked_55 (by decide) ?_
              refine V_iinc (i := 5) dX8_ranked_57 rfl (inc1 _) (by decide) ?_
              refine V_goto (tgt := 20) dX8_ranked_60 (by decide) ?_
              rw [← e9] at k9
              exact V.fin [2, 3, 4, 5, 1, 0] rfl rfl k9
            · replace h46 := bi_1.mp h46
              have e9 : sm (fun j => bi (S_ahead u j i)) jj + 1 = sm (fun j => bi (S_ahead u j i)) (jj + 1) := by rw [sm, h46]; rfl
              refine V_iconst (v := 1) dX8_ranked_49 (by decide) ?_
              refine V_goto (tgt := 54) dX8_ranked_50 (by decide) ?_
              refine V_iadd dX8_ranked_54 ?_
              refine V_istore (i := 4) dX8_ranked_55 (by decide) ?_
              refine V_iinc (i := 5) dX8_ranked_57 rfl (inc1 _) (by decide) ?_
              refine V_goto (tgt := 20) dX8_ranked_60 (by decide) ?_
              rw [← e9] at k9
              exact V.fin [2, 3, 4, 5, 1, 0] rfl rfl k9
      refine V_iload_n (i := 3) dX8_ranked_4 rfl rfl ?_
      refine V_aload_n (i := 0) dX8_ranked_5 rfl rfl ?_
      refine V_getf fl_X8_9 dX8_ranked_6 (hp20 hA) rfl ?_
      refine V_iconst (v := nI 1) dX8_ranked_9 (by decide) ?_
      refine VL_21 dX8_ranked_10 hA rfl (by omega) ?_
      refine V_icmp_ge (tgt := 81) dX8_ranked_11 (by decide) (fun h11 => by first | exact absurd h11 (by rw [h1]; exact nI_ge (by omega) (by omega)) | exact absurd (by rw [h1]; exact nI_ge (by omega) (by omega)) h11) (fun _ => ?_)
      refine V_iconst (v := 0) dX8_ranked_14 (by decide) ?_
      refine V_istore (i := 4) dX8_ranked_15 (by decide) ?_
      refine V_iconst (v := nI 0) dX8_ranked_17 (by decide) ?_
      refine V_istore (i := 5) dX8_ranked_18 (by decide) ?_
      exact V.fin [2, 3, 4, 5, 1, 0] rfl rfl (inner nh 0 (by omega))
  refine V_iconst (v := (-1)) dX8_ranked_0 (by decide) ?_
  refine V_istore_n (i := 2) dX8_ranked_1 rfl (by decide) ?_
  refine V_iconst (v := nI 0) dX8_ranked_2 (by decide) ?_
  refine V_istore_n (i := 3) dX8_ranked_3 rfl (by decide) ?_
  exact V.fin [2, 3, 1, 0] rfl rfl (loop nh 0 (by omega))

theorem tS_tS {σ : Sg} {x y : Int32} : tS (tS σ x) y = tS σ y := by
  unfold tS w3
  refine Prod.ext (funext fun a => funext fun b => funext fun c => ?_) rfl
  dsimp only
  split <;> rfl

set_option maxHeartbeats 4000000 in
set_option maxRecDepth 100000 in
theorem t_X8_bestCarrier {D : va_G} {s0 : State} {l : Launch} {B : Nat} {A : AT} {σ : Sg} (hA : AOK B A) {P : Int32 × Int32} {u : Nat → Int32} {nh : Nat} (h1 : u 1 = nI nh) (hn8 : nh ≤ 8) {nc : Nat} (h2 : u 2 = nI nc) (hm : nc ≤ 4) (hst : ∀ c, c < nc → 0 < 5 + u (kx c 0)) (hti : ∀ c h, c < nc → h < 8 → 0 < S_tired u c h) (hcan : ∀ c h, c < nc → h < 8 → ∃ p, p < 1000 ∧ S_can u c h = nI p) {x : Int32} : Tri D s0 l yX8_bestCarrier cX8_bestCarrier 7 ((some .int)) 3 0 0 [.ref (A 20 0 0), .int x] (HP A (rs σ P u)) (fun r G' => r = some (.int (K_best u nh nc x).2) ∧ G' = HP A (rs (tS σ (nI (K_best u nh nc x).1)) P u)) noX := by
  refine Tri.ofV (own := RX8) (mn := "bestCarrier") (by decide +kernel) rfl rfl (Nat.le_of_ble_eq_true rfl) ?_
  by_cases ho : ob x 0 (nI nh - 1) = true
  ·
    refine V_aload_n (i := 0) dX8_bestCarrier_0 rfl rfl ?_
    refine V_aload_n (i := 0) dX8_bestCarrier_1 rfl rfl ?_
    refine V_iload_n (i := 1) dX8_bestCarrier_2 rfl rfl ?_
    refine Cv1_1 (d := 3) cv_X8_104 dX8_bestCarrier_3 (t_X8_isHouse hA h1) (hp20 hA) rfl rfl (Nat.le_of_ble_eq_true rfl) ⟨Nat.le_refl _, Nat.le_refl _⟩ (by decide) ⟨Nat.le_of_ble_eq_true rfl, Nat.le_of_ble_eq_true rfl⟩ ?_
    refine V_if_eq (tgt := 13) dX8_bestCarrier_6 (by decide) (fun _ => ?_) (fun h6 => by first | exact absurd (by rw [ho]; decide) h6 | exact absurd h6 (by rw [ho]; decide))
    refine V_iconst (v := 1) dX8_bestCarrier_13 (by decide) ?_
    refine VP6 fl_X8_38 dX8_bestCarrier_14 hA ?_
    refine V_iconst (v := (-1)) dX8_bestCarrier_17 (by decide) ?_
    refine V_istore_n (i := 2) dX8_bestCarrier_18 rfl (by decide) ?_
    refine V_iconst (v := 0) dX8_bestCarrier_19 (by decide) ?_
    refine V_istore_n (i := 3) dX8_bestCarrier_20 rfl (by decide) ?_
    refine V_iload_n (i := 3) dX8_bestCarrier_21 rfl rfl ?_
    refine V_aload_n (i := 0) dX8_bestCarrier_22 rfl rfl ?_
    refine V_getf fl_X8_9 dX8_bestCarrier_23 (hp20 hA) rfl ?_
    refine V_iconst (v := nI 2) dX8_bestCarrier_26 (by decide) ?_
    refine VL_21 dX8_bestCarrier_27 hA rfl (by omega) ?_
    refine V_icmp_ge (tgt := 120) dX8_bestCarrier_28 (by decide) (fun h28 => ?_) (fun h28 => ?_)
    · refine V_aload_n (i := 0) dX8_bestCarrier_120 rfl rfl ?_
      refine V_aload_n (i := 0) dX8_bestCarrier_121 rfl rfl ?_
      refine V_getf fl_X8_38 dX8_bestCarrier_122 (hp20 hA) rfl ?_
      refine V_if_eq (tgt := 135) dX8_bestCarrier_125 (by decide) (fun h125 => by first | exact absurd h125 ((by rw [rs_6]; decide)) | exact absurd ((by rw [rs_6]; decide)) h125) (fun _ => ?_)
      refine V_aload_n (i := 0) dX8_bestCarrier_128 rfl rfl ?_
      refine V_getf fl_X8_38 dX8_bestCarrier_129 (hp20 hA) rfl ?_
      refine V_goto (tgt := 145) dX8_bestCarrier_132 (by decide) ?_
      refine VP6 fl_X8_38 dX8_bestCarrier_145 hA ?_
      refine V_aload_n (i := 0) dX8_bestCarrier_148 rfl rfl ?_
      refine V_getf fl_X8_38 dX8_bestCarrier_149 (hp20 hA) rfl ?_
      refine V_if_ne (tgt := 159) dX8_bestCarrier_152 (by decide) (fun _ => ?_) (fun h152 => by first | exact absurd ((by rw [rs_6, rs_6]; decide)) h152 | exact absurd h152 ((by rw [rs_6, rs_6]; decide)))
      refine V_iconst (v := 0) dX8_bestCarrier_159 (by decide) ?_
      refine V_iret dX8_bestCarrier_160 rfl (Nat.le_of_ble_eq_true rfl) (Nat.le_of_ble_eq_true rfl) ?_
      rw [tS_tS]
      refine kfin ?_ rfl
      rw [K_best, if_pos ho]
    · refine V_aload_n (i := 0) dX8_bestCarrier_31 rfl rfl ?_
      refine V_getf fl_X8_38 dX8_bestCarrier_32 (hp20 hA) rfl ?_
      refine V_if_ne (tgt := 120) dX8_bestCarrier_35 (by decide) (fun _ => ?_) (fun h35 => by first | exact absurd ((by rw [rs_6]; decide)) h35 | exact absurd h35 ((by rw [rs_6]; decide)))
      refine V_aload_n (i := 0) dX8_bestCarrier_120 rfl rfl ?_
      refine V_aload_n (i := 0) dX8_bestCarrier_121 rfl rfl ?_
      refine V_getf fl_X8_38 dX8_bestCarrier_122 (hp20 hA) rfl ?_
      refine V_if_eq (tgt := 135) dX8_bestCarrier_125 (by decide) (fun h125 => by first | exact absurd h125 ((by rw [rs_6]; decide)) | exact absurd ((by rw [rs_6]; decide)) h125) (fun _ => ?_)
      refine V_aload_n (i := 0) dX8_bestCarrier_128 rfl rfl ?_
      refine V_getf fl_X8_38 dX8_bestCarrier_129 (hp20 hA) rfl ?_
      refine V_goto (tgt := 145) dX8_bestCarrier_132 (by decide) ?_
      refine VP6 fl_X8_38 dX8_bestCarrier_145 hA ?_
      refine V_aload_n (i := 0) dX8_bestCarrier_148 rfl rfl ?_
      refine V_getf fl_X8_38 dX8_bestCarrier_149 (hp20 hA) rfl ?_
      refine V_if_ne (tgt := 159) dX8_bestCarrier_152 (by decide) (fun _ => ?_) (fun h152 => by first | exact absurd ((by rw [rs_6, rs_6]; decide)) h152 | exact absurd h152 ((by rw [rs_6, rs_6]; decide)))
      refine V_iconst (v := 0) dX8_bestCarrier_159 (by decide) ?_
      refine V_iret dX8_bestCarrier_160 rfl (Nat.le_of_ble_eq_true rfl) (Nat.le_of_ble_eq_true rfl) ?_
      rw [tS_tS]
      refine kfin ?_ rfl
      rw [K_best, if_pos ho]
  · replace ho := Bool.eq_false_iff.mpr ho
    obtain ⟨h, hh, rfl⟩ := ob_ex (by omega) ho
    have hch := nI_clamp (n := h) (by omega)
    have loop : ∀ n i : Nat, i + n = nc → V D s0 RX8 "bestCarrier" cX8_bestCarrier 7 ((some .int)) [] l (rmd 3 0 0) (Zm D s0 0 0 (fun r G' => r = some (.int (K_best u nh nc (nI h)).2) ∧ G' = HP A (rs (tS σ (nI (K_best u nh nc (nI h)).1)) P u)) noX) 21 [(0, .ref (A 20 0 0)), (1, .int (nI h)), (2, .int (S_st u h i).1), (3, .int (nI i))] [] (HP A (rs (tS σ 0) P u)) 0 0 := by
      intro n
      induction n with
      | zero =>
        intro i hi9
        obtain rfl : i = nc := by omega
        refine V_iload_n (i := 3) dX8_bestCarrier_21 rfl rfl ?_
        refine V_aload_n (i := 0) dX8_bestCarrier_22 rfl rfl ?_
        refine V_getf fl_X8_9 dX8_bestCarrier_23 (hp20 hA) rfl ?_
        refine V_iconst (v := nI 2) dX8_bestCarrier_26 (by decide) ?_
        refine VL_21 dX8_bestCarrier_27 hA rfl (by omega) ?_
        refine V_icmp_ge (tgt := 120) dX8_bestCarrier_28 (by decide) (fun _ => ?_) (fun h28 => by first | exact absurd (by rw [h2]; exact nI_le (Nat.le_refl _) (by omega)) h28 | exact absurd h28 (by rw [h2]; exact nI_le (Nat.le_refl _) (by omega)))
        refine V_aload_n (i := 0) dX8_bestCarrier_120 rfl rfl ?_
        refine V_aload_n (i := 0) dX8_bestCarrier_121 rfl rfl ?_
        refine V_getf fl_X8_38 dX8_bestCarrier_122 (hp20 hA) rfl ?_
        refine V_if_eq (tgt := 135) dX8_bestCarrier_125 (by decide) (fun _ => ?_) (fun h125 => by first | exact absurd ((by rw [rs_6]; decide)) h125 | exact absurd h125 ((by rw [rs_6]; decide)))
        refine V_iload_n (i := 2) dX8_bestCarrier_135 rfl rfl ?_
        refine V_iconst (v := (-1)) dX8_bestCarrier_136 (by decide) ?_
        refine V_icmp_ne (tgt := 144) dX8_bestCarrier_137 (by decide) (fun h137 => ?_) (fun h137 => ?_)
        · refine V_iconst (v := 0) dX8_bestCarrier_144 (by decide) ?_
          refine VP6 fl_X8_38 dX8_bestCarrier_145 hA ?_
          refine V_aload_n (i := 0) dX8_bestCarrier_148 rfl rfl ?_
          refine V_getf fl_X8_38 dX8_bestCarrier_149 (hp20 hA) rfl ?_
          refine V_if_ne (tgt := 159) dX8_bestCarrier_152 (by decide) (fun h152 => by first | exact absurd h152 ((by rw [rs_6]; decide)) | exact absurd ((by rw [rs_6]; decide)) h152) (fun _ => ?_)
          refine V_iload_n (i := 2) dX8_bestCarrier_155 rfl rfl ?_
          refine V_goto (tgt := 160) dX8_bestCarrier_156 (by decide) ?_
          refine V_iret dX8_bestCarrier_160 rfl (Nat.le_of_ble_eq_true rfl) (Nat.le_of_ble_eq_true rfl) ?_
          rw [tS_tS]
          refine kfin ?_ rfl
          first
            | (rw [K_best, if_neg (by rw [ho]; decide), hch, if_pos h137]; done)
            | (rw [K_best, if_neg (by rw [ho]; decide), hch, if_neg h137]; done)
        · refine V_iconst (v := 2) dX8_bestCarrier_140 (by decide) ?_
          refine V_goto (tgt := 145) dX8_bestCarrier_141 (by decide) ?_
          refine VP6 fl_X8_38 dX8_bestCarrier_145 hA ?_
          refine V_aload_n (i := 0) dX8_bestCarrier_148 rfl rfl ?_
          refine V_getf fl_X8_38 dX8_bestCarrier_149 (hp20 hA) rfl ?_
          refine V_if_ne (tgt := 159) dX8_bestCarrier_152 (by decide) (fun _ => ?_) (fun h152 => by first | exact absurd ((by rw [rs_6]; decide)) h152 | exact absurd h152 ((by rw [rs_6]; decide)))
          refine V_iconst (v := 0) dX8_bestCarrier_159 (by decide) ?_
          refine V_iret dX8_bestCarrier_160 rfl (Nat.le_of_ble_eq_true rfl) (Nat.le_of_ble_eq_true rfl) ?_
          rw [tS_tS]
          refine kfin ?_ rfl
          first
            | (rw [K_best, if_neg (by rw [ho]; decide), hch, if_pos h137]; done)
            | (rw [K_best, if_neg (by rw [ho]; decide), hch, if_neg h137]; done)
      | succ n ih =>
        intro i hi9
        have k9 := ih (i + 1) (by omega)
        rcases S_st_inv (u := u) (h := h) i with ⟨e1, e2⟩ | ⟨b, hb9, e, hp9⟩
        · rw [e1]
          refine V_iload_n (i := 3) dX8_bestCarrier_21 rfl rfl ?_
          refine V_aload_n (i := 0) dX8_bestCarrier_22 rfl rfl ?_
          refine V_getf fl_X8_9 dX8_bestCarrier_23 (hp20 hA) rfl ?_
          refine V_iconst (v := nI 2) dX8_bestCarrier_26 (by decide) ?_
          refine VL_21 dX8_bestCarrier_27 hA rfl (by omega) ?_
          refine V_icmp_ge (tgt := 120) dX8_bestCarrier_28 (by decide) (fun h28 => by first | exact absurd h28 (by rw [h2]; exact nI_ge (by omega) (by omega)) | exact absurd (by rw [h2]; exact nI_ge (by omega) (by omega)) h28) (fun _ => ?_)
          refine V_aload_n (i := 0) dX8_bestCarrier_31 rfl rfl ?_
          refine V_getf fl_X8_38 dX8_bestCarrier_32 (hp20 hA) rfl ?_
          refine V_if_ne (tgt := 120) dX8_bestCarrier_35 (by decide) (fun h35 => by first | exact absurd h35 ((by rw [rs_6]; decide)) | exact absurd ((by rw [rs_6]; decide)) h35) (fun _ => ?_)
          refine V_aload_n (i := 0) dX8_bestCarrier_38 rfl rfl ?_
          refine V_iload_n (i := 3) dX8_bestCarrier_39 rfl rfl ?_
          refine V_iload_n (i := 1) dX8_bestCarrier_40 rfl rfl ?_
          refine Cv1_2 (d := 3) cv_X8_165 dX8_bestCarrier_41 (t_X8_canBy hA (by omega) (by omega) (hst _ (by omega)) (hti _ _ (by omega) (by omega))) (hp20 hA) rfl rfl (Nat.le_of_ble_eq_true rfl) ⟨Nat.le_refl _, Nat.le_refl _⟩ (by decide) ⟨Nat.le_of_ble_eq_true rfl, Nat.le_of_ble_eq_true rfl⟩ ?_
          refine V_istore (i := 4) dX8_bestCarrier_44 (by decide) ?_
          refine V_iload_n (i := 2) dX8_bestCarrier_46 rfl rfl ?_
          refine V_iconst (v := (-1)) dX8_bestCarrier_47 (by decide) ?_
          refine V_icmp_ne (tgt := 55) dX8_bestCarrier_48 (by decide) (fun h48 => by first | exact absurd h48 (rfl) | exact absurd (rfl) h48) (fun _ => ?_)
          refine V_iconst (v := 1) dX8_bestCarrier_51 (by decide) ?_
          refine V_goto (tgt := 64) dX8_bestCarrier_52 (by decide) ?_
          refine V_istore (i := 5) dX8_bestCarrier_64 (by decide) ?_
          refine V_iload (i := 5) dX8_bestCarrier_66 rfl ?_
          refine V_if_gt (tgt := 91) dX8_bestCarrier_68 (by decide) (fun _ => ?_) (fun h68 => by first | exact absurd (by decide) h68 | exact absurd h68 (by decide))
          refine V_iconst (v := 1) dX8_bestCarrier_91 (by decide) ?_
          refine V_goto (tgt := 96) dX8_bestCarrier_92 (by decide) ?_
          refine V_istore (i := 6) dX8_bestCarrier_96 (by decide) ?_
          refine V_iload (i := 4) dX8_bestCarrier_98 rfl ?_
          refine V_if_le (tgt := 112) dX8_bestCarrier_100 (by decide) (fun h100 => ?_) (fun h100 => ?_)
          · rw [S_st_n (fun q => q.elim (fun z => by rw [e2] at z; exact Int32.not_lt.mpr h100 z) (fun z => z.1.1 e1)), e1] at k9
            refine V_iload_n (i := 2) dX8_bestCarrier_112 rfl rfl ?_
            refine V_istore_n (i := 2) dX8_bestCarrier_113 rfl (by decide) ?_
            refine V_iinc (i := 3) dX8_bestCarrier_114 rfl (inc1 _) (by decide) ?_
            refine V_goto (tgt := 21) dX8_bestCarrier_117 (by decide) ?_
            exact V.fin [5, 6, 1, 0] rfl rfl k9
          · rw [S_st_y (Or.inl (by rw [e2]; exact Int32.not_le.mp h100))] at k9
            refine V_iload (i := 6) dX8_bestCarrier_103 rfl ?_
            refine V_if_eq (tgt := 112) dX8_bestCarrier_105 (by decide) (fun h105 => by first | exact absurd h105 (by decide) | exact absurd (by decide) h105) (fun _ => ?_)
            refine V_iload_n (i := 3) dX8_bestCarrier_108 rfl rfl ?_
            refine V_goto (tgt := 113) dX8_bestCarrier_109 (by decide) ?_
            refine V_istore_n (i := 2) dX8_bestCarrier_113 rfl (by decide) ?_
            refine V_iinc (i := 3) dX8_bestCarrier_114 rfl (inc1 _) (by decide) ?_
            refine V_goto (tgt := 21) dX8_bestCarrier_117 (by decide) ?_
            exact V.fin [5, 6, 1, 0] rfl rfl k9
        · rw [e]
          obtain ⟨c1, hc1, f1⟩ := hcan i h (by omega) (by omega)
          obtain ⟨c2, hc2, f2⟩ := hcan b h (by omega) (by omega)
          have hp8 : 0 < c2 := by
            rw [f2, show (0 : Int32) = nI 0 from rfl, nI_ltI (by omega) (by omega)] at hp9
            exact hp9
          have hnb : ¬ nI b = -1 := fun q => by
            have z := congrArg Int32.toInt q
            rw [nI_toInt (by omega)] at z
            have : (-1 : Int32).toInt = -1 := by decide
            omega
          refine V_iload_n (i := 3) dX8_bestCarrier_21 rfl rfl ?_
          refine V_aload_n (i := 0) dX8_bestCarrier_22 rfl rfl ?_
          refine V_getf fl_X8_9 dX8_bestCarrier_23 (hp20 hA) rfl ?_
          refine V_iconst (v := nI 2) dX8_bestCarrier_26 (by decide) ?_
          refine VL_21 dX8_bestCarrier_27 hA rfl (by omega) ?_
          refine V_icmp_ge (tgt := 120) dX8_bestCarrier_28 (by decide) (fun h28 => by first | exact absurd h28 (by rw [h2]; exact nI_ge (by omega) (by omega)) | exact absurd (by rw [h2]; exact nI_ge (by omega) (by omega)) h28) (fun _ => ?_)
          refine V_aload_n (i := 0) dX8_bestCarrier_31 rfl rfl ?_
          refine V_getf fl_X8_38 dX8_bestCarrier_32 (hp20 hA) rfl ?_
          refine V_if_ne (tgt := 120) dX8_bestCarrier_35 (by decide) (fun h35 => by first | exact absurd h35 ((by rw [rs_6]; decide)) | exact absurd ((by rw [rs_6]; decide)) h35) (fun _ => ?_)
          refine V_aload_n (i := 0) dX8_bestCarrier_38 rfl rfl ?_
          refine V_iload_n (i := 3) dX8_bestCarrier_39 rfl rfl ?_
          refine V_iload_n (i := 1) dX8_bestCarrier_40 rfl rfl ?_
          refine Cv1_2 (d := 3) cv_X8_165 dX8_bestCarrier_41 (t_X8_canBy hA (by omega) (by omega) (hst _ (by omega)) (hti _ _ (by omega) (by omega))) (hp20 hA) rfl rfl (Nat.le_of_ble_eq_true rfl) ⟨Nat.le_refl _, Nat.le_refl _⟩ (by decide) ⟨Nat.le_of_ble_eq_true rfl, Nat.le_of_ble_eq_true rfl⟩ ?_
          refine V_istore (i := 4) dX8_bestCarrier_44 (by decide) ?_
          refine V_iload_n (i := 2) dX8_bestCarrier_46 rfl rfl ?_
          refine V_iconst (v := (-1)) dX8_bestCarrier_47 (by decide) ?_
          refine V_icmp_ne (tgt := 55) dX8_bestCarrier_48 (by decide) (fun _ => ?_) (fun h48 => by first | exact absurd (hnb) h48 | exact absurd h48 (hnb))
          refine V_iload (i := 4) dX8_bestCarrier_55 rfl ?_
          refine V_aload_n (i := 0) dX8_bestCarrier_57 rfl rfl ?_
          refine V_iload_n (i := 2) dX8_bestCarrier_58 rfl rfl ?_
          refine V_iload_n (i := 1) dX8_bestCarrier_59 rfl rfl ?_
          refine Cv1_2 (d := 3) cv_X8_165 dX8_bestCarrier_60 (t_X8_canBy hA (by omega) (by omega) (hst _ (by omega)) (hti _ _ (by omega) (by omega))) (hp20 hA) rfl rfl (Nat.le_of_ble_eq_true rfl) ⟨Nat.le_refl _, Nat.le_refl _⟩ (by decide) ⟨Nat.le_of_ble_eq_true rfl, Nat.le_of_ble_eq_true rfl⟩ ?_
          refine V_isub dX8_bestCarrier_63 ?_
          refine V_istore (i := 5) dX8_bestCarrier_64 (by decide) ?_
          refine V_iload (i := 5) dX8_bestCarrier_66 rfl ?_
          refine V_if_gt (tgt := 91) dX8_bestCarrier_68 (by decide) (fun h68 => ?_) (fun h68 => ?_)
          · replace h68 : c2 < c1 := by rw [f1, f2, subp (by omega) (by omega)] at h68; exact h68
            refine V_iconst (v := 1) dX8_bestCarrier_91 (by decide) ?_
            refine V_goto (tgt := 96) dX8_bestCarrier_92 (by decide) ?_
            refine V_istore (i := 6) dX8_bestCarrier_96 (by decide) ?_
            refine V_iload (i := 4) dX8_bestCarrier_98 rfl ?_
            refine V_if_le (tgt := 112) dX8_bestCarrier_100 (by decide) (fun h100 => ?_) (fun h100 => ?_)
            · replace h100 : c1 = 0 := by
                rw [f1, show (0 : Int32) = nI 0 from rfl, nI_leI (by omega) (by omega)] at h100
                omega
              refine V_iload_n (i := 2) dX8_bestCarrier_112 rfl rfl ?_
              refine V_istore_n (i := 2) dX8_bestCarrier_113 rfl (by decide) ?_
              refine V_iinc (i := 3) dX8_bestCarrier_114 rfl (inc1 _) (by decide) ?_
              refine V_goto (tgt := 21) dX8_bestCarrier_117 (by decide) ?_
              first
                | exact absurd h105 (by decide)
                | exact absurd rfl h105
                | (rw [S_st_y (by rw [e]; exact Or.inl (by rw [f1, f2]; exact (nI_ltI (by omega) (by omega)).mpr h68))] at k9; exact V.fin [5, 6, 1, 0] rfl rfl k9)
                | (rw [S_st_y (by rw [e]; exact Or.inr ⟨⟨hnb, by rw [f1, f2, h73]⟩, Int32.not_le.mp h88⟩)] at k9; exact V.fin [5, 6, 1, 0] rfl rfl k9)
                | (rw [S_st_n (by rw [e]; exact fun q => q.elim (fun z => by rw [f1, f2, nI_ltI (by omega) (by omega)] at z; omega) (fun z => by have w := z.1.2; rw [f1, f2, nI_eq (by omega) (by omega)] at w; first | omega | exact absurd z.2 (Int32.not_lt.mpr h88))), e] at k9; exact V.fin [5, 6, 1, 0] rfl rfl k9)
            · refine V_iload (i := 6) dX8_bestCarrier_103 rfl ?_
              refine V_if_eq (tgt := 112) dX8_bestCarrier_105 (by decide) (fun h105 => ?_) (fun h105 => ?_)
              · refine V_iload_n (i := 2) dX8_bestCarrier_112 rfl rfl ?_
                refine V_istore_n (i := 2) dX8_bestCarrier_113 rfl (by decide) ?_
                refine V_iinc (i := 3) dX8_bestCarrier_114 rfl (inc1 _) (by decide) ?_
                refine V_goto (tgt := 21) dX8_bestCarrier_117 (by decide) ?_
                first
                  | exact absurd h105 (by decide)
                  | exact absurd rfl h105
                  | (rw [S_st_y (by rw [e]; exact Or.inl (by rw [f1, f2]; exact (nI_ltI (by omega) (by omega)).mpr h68))] at k9; exact V.fin [5, 6, 1, 0] rfl rfl k9)
                  | (rw [S_st_y (by rw [e]; exact Or.inr ⟨⟨hnb, by rw [f1, f2, h73]⟩, Int32.not_le.mp h88⟩)] at k9; exact V.fin [5, 6, 1, 0] rfl rfl k9)
                  | (rw [S_st_n (by rw [e]; exact fun q => q.elim (fun z => by rw [f1, f2, nI_ltI (by omega) (by omega)] at z; omega) (fun z => by have w := z.1.2; rw [f1, f2, nI_eq (by omega) (by omega)] at w; first | omega | exact absurd z.2 (Int32.not_lt.mpr h88))), e] at k9; exact V.fin [5, 6, 1, 0] rfl rfl k9)
              · refine V_iload_n (i := 3) dX8_bestCarrier_108 rfl rfl ?_
                refine V_goto (tgt := 113) dX8_bestCarrier_109 (by decide) ?_
                refine V_istore_n (i := 2) dX8_bestCarrier_113 rfl (by decide) ?_
                refine V_iinc (i := 3) dX8_bestCarrier_114 rfl (inc1 _) (by decide) ?_
                refine V_goto (tgt := 21) dX8_bestCarrier_117 (by decide) ?_
                first
                  | exact absurd h105 (by decide)
                  | exact absurd rfl h105
                  | (rw [S_st_y (by rw [e]; exact Or.inl (by rw [f1, f2]; exact (nI_ltI (by omega) (by omega)).mpr h68))] at k9; exact V.fin [5, 6, 1, 0] rfl rfl k9)
                  | (rw [S_st_y (by rw [e]; exact Or.inr ⟨⟨hnb, by rw [f1, f2, h73]⟩, Int32.not_le.mp h88⟩)] at k9; exact V.fin [5, 6, 1, 0] rfl rfl k9)
                  | (rw [S_st_n (by rw [e]; exact fun q => q.elim (fun z => by rw [f1, f2, nI_ltI (by omega) (by omega)] at z; omega) (fun z => by have w := z.1.2; rw [f1, f2, nI_eq (by omega) (by omega)] at w; first | omega | exact absurd z.2 (Int32.not_lt.mpr h88))), e] at k9; exact V.fin [5, 6, 1, 0] rfl rfl k9)
          · replace h68 : ¬ c2 < c1 := by rw [f1, f2, subp (by omega) (by omega)] at h68; exact h68
            refine V_iload (i := 5) dX8_bestCarrier_71 rfl ?_
            refine V_if_ne (tgt := 95) dX8_bestCarrier_73 (by decide) (fun h73 => ?_) (fun h73 => ?_)
            · replace h73 : ¬ c1 = c2 := by rw [sub0, f1, f2, nI_eq (by omega) (by omega)] at h73; exact h73
              refine V_iconst (v := 0) dX8_bestCarrier_95 (by decide) ?_
              refine V_istore (i := 6) dX8_bestCarrier_96 (by decide) ?_
              refine V_iload (i := 4) dX8_bestCarrier_98 rfl ?_
              refine V_if_le (tgt := 112) dX8_bestCarrier_100 (by decide) (fun h100 => ?_) (fun h100 => ?_)
              · replace h100 : c1 = 0 := by
                  rw [f1, show (0 : Int32) = nI 0 from rfl, nI_leI (by omega) (by omega)] at h100
                  omega
                refine V_iload_n (i := 2) dX8_bestCarrier_112 rfl rfl ?_
                refine V_istore_n (i := 2) dX8_bestCarrier_113 rfl (by decide) ?_
                refine V_iinc (i := 3) dX8_bestCarrier_114 rfl (inc1 _) (by decide) ?_
                refine V_goto (tgt := 21) dX8_bestCarrier_117 (by decide) ?_
                first
                  | exact absurd h105 (by decide)
                  | exact absurd rfl h105
                  | (rw [S_st_y (by rw [e]; exact Or.inl (by rw [f1, f2]; exact (nI_ltI (by omega) (by omega)).mpr h68))] at k9; exact V.fin [5, 6, 1, 0] rfl rfl k9)
                  | (rw [S_st_y (by rw [e]; exact Or.inr ⟨⟨hnb, by rw [f1, f2, h73]⟩, Int32.not_le.mp h88⟩)] at k9; exact V.fin [5, 6, 1, 0] rfl rfl k9)
                  | (rw [S_st_n (by rw [e]; exact fun q => q.elim (fun z => by rw [f1, f2, nI_ltI (by omega) (by omega)] at z; omega) (fun z => by have w := z.1.2; rw [f1, f2, nI_eq (by omega) (by omega)] at w; first | omega | exact absurd z.2 (Int32.not_lt.mpr h88))), e] at k9; exact V.fin [5, 6, 1, 0] rfl rfl k9)
              · refine V_iload (i := 6) dX8_bestCarrier_103 rfl ?_
                refine V_if_eq (tgt := 112) dX8_bestCarrier_105 (by decide) (fun h105 => ?_) (fun h105 => ?_)
                · refine V_iload_n (i := 2) dX8_bestCarrier_112 rfl rfl ?_
                  refine V_istore_n (i := 2) dX8_bestCarrier_113 rfl (by decide) ?_
                  refine V_iinc (i := 3) dX8_bestCarrier_114 rfl (inc1 _) (by decide) ?_
                  refine V_goto (tgt := 21) dX8_bestCarrier_117 (by decide) ?_
                  first
                    | exact absurd h105 (by decide)
                    | exact absurd rfl h105
                    | (rw [S_st_y (by rw [e]; exact Or.inl (by rw [f1, f2]; exact (nI_ltI (by omega) (by omega)).mpr h68))] at k9; exact V.fin [5, 6, 1, 0] rfl rfl k9)
                    | (rw [S_st_y (by rw [e]; exact Or.inr ⟨⟨hnb, by rw [f1, f2, h73]⟩, Int32.not_le.mp h88⟩)] at k9; exact V.fin [5, 6, 1, 0] rfl rfl k9)
                    | (rw [S_st_n (by rw [e]; exact fun q => q.elim (fun z => by rw [f1, f2, nI_ltI (by omega) (by omega)] at z; omega) (fun z => by have w := z.1.2; rw [f1, f2, nI_eq (by omega) (by omega)] at w; first | omega | exact absurd z.2 (Int32.not_lt.mpr h88))), e] at k9; exact V.fin [5, 6, 1, 0] rfl rfl k9)
                · refine V_iload_n (i := 3) dX8_bestCarrier_108 rfl rfl ?_
                  refine V_goto (tgt := 113) dX8_bestCarrier_109 (by decide) ?_
                  refine V_istore_n (i := 2) dX8_bestCarrier_113 rfl (by decide) ?_
                  refine V_iinc (i := 3) dX8_bestCarrier_114 rfl (inc1 _) (by decide) ?_
                  refine V_goto (tgt := 21) dX8_bestCarrier_117 (by decide) ?_
                  first
                    | exact absurd h105 (by decide)
                    | exact absurd rfl h105
                    | (rw [S_st_y (by rw [e]; exact Or.inl (by rw [f1, f2]; exact (nI_ltI (by omega) (by omega)).mpr h68))] at k9; exact V.fin [5, 6, 1, 0] rfl rfl k9)
                    | (rw [S_st_y (by rw [e]; exact Or.inr ⟨⟨hnb, by rw [f1, f2, h73]⟩, Int32.not_le.mp h88⟩)] at k9; exact V.fin [5, 6, 1, 0] rfl rfl k9)
                    | (rw [S_st_n (by rw [e]; exact fun q => q.elim (fun z => by rw [f1, f2, nI_ltI (by omega) (by omega)] at z; omega) (fun z => by have w := z.1.2; rw [f1, f2, nI_eq (by omega) (by omega)] at w; first | omega | exact absurd z.2 (Int32.not_lt.mpr h88))), e] at k9; exact V.fin [5, 6, 1, 0] rfl rfl k9)
            · replace h73 : c1 = c2 := by rw [sub0, f1, f2, nI_eq (by omega) (by omega)] at h73; exact h73
              refine V_aload_n (i := 0) dX8_bestCarrier_76 rfl rfl ?_
              refine V_iload_n (i := 3) dX8_bestCarrier_77 rfl rfl ?_
              refine V_iconst (v := nI 2) dX8_bestCarrier_78 (by decide) ?_
              refine Cv1_2 (d := 3) cv_X8_83 dX8_bestCarrier_79 (t_X8_ofCarrier hA (by omega) (by decide)) (hp20 hA) rfl rfl (Nat.le_of_ble_eq_true rfl) ⟨Nat.le_refl _, Nat.le_refl _⟩ (by decide) ⟨Nat.le_of_ble_eq_true rfl, Nat.le_of_ble_eq_true rfl⟩ ?_
              refine V_aload_n (i := 0) dX8_bestCarrier_82 rfl rfl ?_
              refine V_iload_n (i := 2) dX8_bestCarrier_83 rfl rfl ?_
              refine V_iconst (v := nI 2) dX8_bestCarrier_84 (by decide) ?_
              refine Cv1_2 (d := 3) cv_X8_83 dX8_bestCarrier_85 (t_X8_ofCarrier hA (by omega) (by decide)) (hp20 hA) rfl rfl (Nat.le_of_ble_eq_true rfl) ⟨Nat.le_refl _, Nat.le_refl _⟩ (by decide) ⟨Nat.le_of_ble_eq_true rfl, Nat.le_of_ble_eq_true rfl⟩ ?_
              refine V_icmp_ge (tgt := 95) dX8_bestCarrier_88 (by decide) (fun h88 => ?_) (fun h88 => ?_)
              · refine V_iconst (v := 0) dX8_bestCarrier_95 (by decide) ?_
                refine V_istore (i := 6) dX8_bestCarrier_96 (by decide) ?_
                refine V_iload (i := 4) dX8_bestCarrier_98 rfl ?_
                refine V_if_le (tgt := 112) dX8_bestCarrier_100 (by decide) (fun h100 => ?_) (fun h100 => ?_)
                · replace h100 : c1 = 0 := by
                    rw [f1, show (0 : Int32) = nI 0 from rfl, nI_leI (by omega) (by omega)] at h100
                    omega
                  refine V_iload_n (i := 2) dX8_bestCarrier_112 rfl rfl ?_
                  refine V_istore_n (i := 2) dX8_bestCarrier_113 rfl (by decide) ?_
                  refine V_iinc (i := 3) dX8_bestCarrier_114 rfl (inc1 _) (by decide) ?_
                  refine V_goto (tgt := 21) dX8_bestCarrier_117 (by decide) ?_
                  first
                    | exact absurd h105 (by decide)
                    | exact absurd rfl h105
                    | (rw [S_st_y (by rw [e]; exact Or.inl (by rw [f1, f2]; exact (nI_ltI (by omega) (by omega)).mpr h68))] at k9; exact V.fin [5, 6, 1, 0] rfl rfl k9)
                    | (rw [S_st_y (by rw [e]; exact Or.inr ⟨⟨hnb, by rw [f1, f2, h73]⟩, Int32.not_le.mp h88⟩)] at k9; exact V.fin [5, 6, 1, 0] rfl rfl k9)
                    | (rw [S_st_n (by rw [e]; exact fun q => q.elim (fun z => by rw [f1, f2, nI_ltI (by omega) (by omega)] at z; omega) (fun z => by have w := z.1.2; rw [f1, f2, nI_eq (by omega) (by omega)] at w; first | omega | exact absurd z.2 (Int32.not_lt.mpr h88))), e] at k9; exact V.fin [5, 6, 1, 0] rfl rfl k9)
                · refine V_iload (i := 6) dX8_bestCarrier_103 rfl ?_
                  refine V_if_eq (tgt := 112) dX8_bestCarrier_105 (by decide) (fun h105 => ?_) (fun h105 => ?_)
                  · refine V_iload_n (i := 2) dX8_bestCarrier_112 rfl rfl ?_
                    refine V_istore_n (i := 2) dX8_bestCarrier_113 rfl (by decide) ?_
                    refine V_iinc (i := 3) dX8_bestCarrier_114 rfl (inc1 _) (by decide) ?_
                    refine V_goto (tgt := 21) dX8_bestCarrier_117 (by decide) ?_
                    first
                      | exact absurd h105 (by decide)
                      | exact absurd rfl h105
                      | (rw [S_st_y (by rw [e]; exact Or.inl (by rw [f1, f2]; exact (nI_ltI (by omega) (by omega)).mpr h68))] at k9; exact V.fin [5, 6, 1, 0] rfl rfl k9)
                      | (rw [S_st_y (by rw [e]; exact Or.inr ⟨⟨hnb, by rw [f1, f2, h73]⟩, Int32.not_le.mp h88⟩)] at k9; exact V.fin [5, 6, 1, 0] rfl rfl k9)
                      | (rw [S_st_n (by rw [e]; exact fun q => q.elim (fun z => by rw [f1, f2, nI_ltI (by omega) (by omega)] at z; omega) (fun z => by have w := z.1.2; rw [f1, f2, nI_eq (by omega) (by omega)] at w; first | omega | exact absurd z.2 (Int32.not_lt.mpr h88))), e] at k9; exact V.fin [5, 6, 1, 0] rfl rfl k9)
                  · refine V_iload_n (i := 3) dX8_bestCarrier_108 rfl rfl ?_
                    refine V_goto (tgt := 113) dX8_bestCarrier_109 (by decide) ?_
                    refine V_istore_n (i := 2) dX8_bestCarrier_113 rfl (by decide) ?_
                    refine V_iinc (i := 3) dX8_bestCarrier_114 rfl (inc1 _) (by decide) ?_
                    refine V_goto (tgt := 21) dX8_bestCarrier_117 (by decide) ?_
                    first
                      | exact absurd h105 (by decide)
                      | exact absurd rfl h105
                      | (rw [S_st_y (by rw [e]; exact Or.inl (by rw [f1, f2]; exact (nI_ltI (by omega) (by omega)).mpr h68))] at k9; exact V.fin [5, 6, 1, 0] rfl rfl k9)
                      | (rw [S_st_y (by rw [e]; exact Or.inr ⟨⟨hnb, by rw [f1, f2, h73]⟩, Int32.not_le.mp h88⟩)] at k9; exact V.fin [5, 6, 1, 0] rfl rfl k9)
                      | (rw [S_st_n (by rw [e]; exact fun q => q.elim (fun z => by rw [f1, f2, nI_ltI (by omega) (by omega)] at z; omega) (fun z => by have w := z.1.2; rw [f1, f2, nI_eq (by omega) (by omega)] at w; first | omega | exact absurd z.2 (Int32.not_lt.mpr h88))), e] at k9; exact V.fin [5, 6, 1, 0] rfl rfl k9)
              · refine V_iconst (v := 1) dX8_bestCarrier_91 (by decide) ?_
                refine V_goto (tgt := 96) dX8_bestCarrier_92 (by decide) ?_
                refine V_istore (i := 6) dX8_bestCarrier_96 (by decide) ?_
                refine V_iload (i := 4) dX8_bestCarrier_98 rfl ?_
                refine V_if_le (tgt := 112) dX8_bestCarrier_100 (by decide) (fun h100 => ?_) (fun h100 => ?_)
                · replace h100 : c1 = 0 := by
                    rw [f1, show (0 : Int32) = nI 0 from rfl, nI_leI (by omega) (by omega)] at h100
                    omega
                  refine V_iload_n (i := 2) dX8_bestCarrier_112 rfl rfl ?_
                  refine V_istore_n (i := 2) dX8_bestCarrier_113 rfl (by decide) ?_
                  refine V_iinc (i := 3) dX8_bestCarrier_114 rfl (inc1 _) (by decide) ?_
                  refine V_goto (tgt := 21) dX8_bestCarrier_117 (by decide) ?_
                  first
                    | exact absurd h105 (by decide)
                    | exact absurd rfl h105
                    | (rw [S_st_y (by rw [e]; exact Or.inl (by rw [f1, f2]; exact (nI_ltI (by omega) (by omega)).mpr h68))] at k9; exact V.fin [5, 6, 1, 0] rfl rfl k9)
                    | (rw [S_st_y (by rw [e]; exact Or.inr ⟨⟨hnb, by rw [f1, f2, h73]⟩, Int32.not_le.mp h88⟩)] at k9; exact V.fin [5, 6, 1, 0] rfl rfl k9)
                    | (rw [S_st_n (by rw [e]; exact fun q => q.elim (fun z => by rw [f1, f2, nI_ltI (by omega) (by omega)] at z; omega) (fun z => by have w := z.1.2; rw [f1, f2, nI_eq (by omega) (by omega)] at w; first | omega | exact absurd z.2 (Int32.not_lt.mpr h88))), e] at k9; exact V.fin [5, 6, 1, 0] rfl rfl k9)
                · refine V_iload (i := 6) dX8_bestCarrier_103 rfl ?_
                  refine V_if_eq (tgt := 112) dX8_bestCarrier_105 (by decide) (fun h105 => ?_) (fun h105 => ?_)
                  · refine V_iload_n (i := 2) dX8_bestCarrier_112 rfl rfl ?_
                    refine V_istore_n (i := 2) dX8_bestCarrier_113 rfl (by decide) ?_
                    refine V_iinc (i := 3) dX8_bestCarrier_114 rfl (inc1 _) (by decide) ?_
                    refine V_goto (tgt := 21) dX8_bestCarrier_117 (by decide) ?_
                    first
                      | exact absurd h105 (by decide)
                      | exact absurd rfl h105
                      | (rw [S_st_y (by rw [e]; exact Or.inl (by rw [f1, f2]; exact (nI_ltI (by omega) (by omega)).mpr h68))] at k9; exact V.fin [5, 6, 1, 0] rfl rfl k9)
                      | (rw [S_st_y (by rw [e]; exact Or.inr ⟨⟨hnb, by rw [f1, f2, h73]⟩, Int32.not_le.mp h88⟩)] at k9; exact V.fin [5, 6, 1, 0] rfl rfl k9)
                      | (rw [S_st_n (by rw [e]; exact fun q => q.elim (fun z => by rw [f1, f2, nI_ltI (by omega) (by omega)] at z; omega) (fun z => by have w := z.1.2; rw [f1, f2, nI_eq (by omega) (by omega)] at w; first | omega | exact absurd z.2 (Int32.not_lt.mpr h88))), e] at k9; exact V.fin [5, 6, 1, 0] rfl rfl k9)
                  · refine V_iload_n (i := 3) dX8_bestCarrier_108 rfl rfl ?_
                    refine V_goto (tgt := 113) dX8_bestCarrier_109 (by decide) ?_
                    refine V_istore_n (i := 2) dX8_bestCarrier_113 rfl (by decide) ?_
                    refine V_iinc (i := 3) dX8_bestCarrier_114 rfl (inc1 _) (by decide) ?_
                    refine V_goto (tgt := 21) dX8_bestCarrier_117 (by decide) ?_
                    first
                      | exact absurd h105 (by decide)
                      | exact absurd rfl h105
                      | (rw [S_st_y (by rw [e]; exact Or.inl (by rw [f1, f2]; exact (nI_ltI (by omega) (by omega)).mpr h68))] at k9; exact V.fin [5, 6, 1, 0] rfl rfl k9)
                      | (rw [S_st_y (by rw [e]; exact Or.inr ⟨⟨hnb, by rw [f1, f2, h73]⟩, Int32.not_le.mp h88⟩)] at k9; exact V.fin [5, 6, 1, 0] rfl rfl k9)
                      | (rw [S_st_n (by rw [e]; exact fun q => q.elim (fun z => by rw [f1, f2, nI_ltI (by omega) (by omega)] at z; omega) (fun z => by have w := z.1.2; rw [f1, f2, nI_eq (by omega) (by omega)] at w; first | omega | exact absurd z.2 (Int32.not_lt.mpr h88))), e] at k9; exact V.fin [5, 6, 1, 0] rfl rfl k9)
    refine V_aload_n (i := 0) dX8_bestCarrier_0 rfl rfl ?_
    refine V_aload_n (i := 0) dX8_bestCarrier_1 rfl rfl ?_
    refine V_iload_n (i := 1) dX8_bestCarrier_2 rfl rfl ?_
    refine Cv1_1 (d := 3) cv_X8_104 dX8_bestCarrier_3 (t_X8_isHouse hA h1) (hp20 hA) rfl rfl (Nat.le_of_ble_eq_true rfl) ⟨Nat.le_refl _, Nat.le_refl _⟩ (by decide) ⟨Nat.le_of_ble_eq_true rfl, Nat.le_of_ble_eq_true rfl⟩ ?_
    refine V_if_eq (tgt := 13) dX8_bestCarrier_6 (by decide) (fun h6 => by first | exact absurd h6 (by rw [ho]; decide) | exact absurd (by rw [ho]; decide) h6) (fun _ => ?_)
    refine V_iconst (v := 0) dX8_bestCarrier_9 (by decide) ?_
    refine V_goto (tgt := 14) dX8_bestCarrier_10 (by decide) ?_
    refine VP6 fl_X8_38 dX8_bestCarrier_14 hA ?_
    refine V_iconst (v := (-1)) dX8_bestCarrier_17 (by decide) ?_
    refine V_istore_n (i := 2) dX8_bestCarrier_18 rfl (by decide) ?_
    refine V_iconst (v := nI 0) dX8_bestCarrier_19 (by decide) ?_
    refine V_istore_n (i := 3) dX8_bestCarrier_20 rfl (by decide) ?_
    exact V.fin [2, 3, 1, 0] rfl rfl (loop nc 0 (by omega))

set_option maxHeartbeats 4000000 in
set_option maxRecDepth 100000 in
theorem t_X8_account {D : va_G} {s0 : State} {l : Launch} {B : Nat} {A : AT} {σ : Sg} (hA : AOK B A) {P : Int32 × Int32} {u : Nat → Int32} {nh : Nat} (h1 : u 1 = nI nh) (hn8 : nh ≤ 8) {x : Int32} : Tri D s0 l yX8_account cX8_account 2 ((some .int)) 2 0 0 [.ref (A 20 0 0), .int x] (HP A (rs σ P u)) (fun r G' => r = some (.int (K_account u nh (σ.1 20 0 5) (σ.1 20 0 11) x).2) ∧ G' = HP A (rs (tS σ (nI (K_account u nh (σ.1 20 0 5) (σ.1 20 0 11) x).1)) P u)) noX := by
  refine Tri.ofV (own := RX8) (mn := "account") (by decide +kernel) rfl rfl (Nat.le_of_ble_eq_true rfl) ?_
  by_cases ho : ob x 0 15 = true
  ·
    refine V_aload_n (i := 0) dX8_account_0 rfl rfl ?_
    refine V_iload_n (i := 1) dX8_account_1 rfl rfl ?_
    refine V_iconst (v := 0) dX8_account_2 (by decide) ?_
    refine V_bipush (v := 15) dX8_account_3 (by decide) ?_
    refine Cs1_3 (d := 2) cs_X8_66 dX8_account_5 (t_X8_isIn hA) (Nat.le_of_ble_eq_true rfl) ⟨Nat.le_refl _, Nat.le_refl _⟩ (by decide) ⟨Nat.le_of_ble_eq_true rfl, Nat.le_of_ble_eq_true rfl⟩ ?_
    refine V_if_eq (tgt := 15) dX8_account_8 (by decide) (fun _ => ?_) (fun h8 => by first | exact absurd (by rw [ho]; decide) h8 | exact absurd h8 (by rw [ho]; decide))
    refine V_iconst (v := 1) dX8_account_15 (by decide) ?_
    refine VP6 fl_X8_38 dX8_account_16 hA ?_
    refine V_iload_n (i := 1) dX8_account_19 rfl rfl ?_
    refine V_tableOut (tgt := 172) dX8_account_20 (by
      simp only [ob, Bool.or_eq_true, decide_eq_true_eq] at ho
      rw [Int32.lt_iff_toInt_lt, Int32.lt_iff_toInt_lt] at ho
      have e0 : (0 : Int32).toInt = 0 := by decide
      have e15 : (15 : Int32).toInt = 15 := by decide
      omega) (by decide) ?_
    refine V_iconst (v := 0) dX8_account_172 (by decide) ?_
    refine V_iret dX8_account_173 rfl (Nat.le_of_ble_eq_true rfl) (Nat.le_of_ble_eq_true rfl) ?_
    refine kfin ?_ rfl
    rw [K_account, if_pos ho]
  · replace ho := Bool.eq_false_iff.mpr ho
    obtain ⟨m, -, hm, rfl⟩ := ob_ex2 (a := 0) (b := 15) (by decide) (by decide) ho
    have h5 : (rs (tS σ 0) P u).1 20 0 5 = σ.1 20 0 5 := rs_g (by decide) (by decide)
    have h11 : (rs (tS σ 0) P u).1 20 0 11 = σ.1 20 0 11 := rs_g (by decide) (by decide)
    refine V_aload_n (i := 0) dX8_account_0 rfl rfl ?_
    refine V_iload_n (i := 1) dX8_account_1 rfl rfl ?_
    refine V_iconst (v := 0) dX8_account_2 (by decide) ?_
    refine V_bipush (v := 15) dX8_account_3 (by decide) ?_
    refine Cs1_3 (d := 2) cs_X8_66 dX8_account_5 (t_X8_isIn hA) (Nat.le_of_ble_eq_true rfl) ⟨Nat.le_refl _, Nat.le_refl _⟩ (by decide) ⟨Nat.le_of_ble_eq_true rfl, Nat.le_of_ble_eq_true rfl⟩ ?_
    refine V_if_eq (tgt := 15) dX8_account_8 (by decide) (fun h8 => by first | exact absurd h8 (by rw [ho]; decide) | exact absurd (by rw [ho]; decide) h8) (fun _ => ?_)
    refine V_iconst (v := 0) dX8_account_11 (by decide) ?_
    refine V_goto (tgt := 16) dX8_account_12 (by decide) ?_
    refine VP6 fl_X8_38 dX8_account_16 hA ?_
    refine V_iload_n (i := 1) dX8_account_19 rfl rfl ?_
    rcases (by omega : m = 0 ∨ m = 1 ∨ m = 2 ∨ m = 3 ∨ m = 4 ∨ m = 5 ∨ m = 6 ∨ m = 7 ∨ m = 8 ∨ m = 9 ∨ m = 10 ∨ m = 11 ∨ m = 12 ∨ m = 13 ∨ m = 14 ∨ m = 15) with rfl | rfl | rfl | rfl | rfl | rfl | rfl | rfl | rfl | rfl | rfl | rfl | rfl | rfl | rfl | rfl
    · refine V_tableIn (tgt := 100) dX8_account_20 (by decide) (by decide) rfl (by decide) ?_
      refine V_aload_n (i := 0) dX8_account_100 rfl rfl ?_
      refine V_getf fl_X8_9 dX8_account_101 (hp20 hA) rfl ?_
      refine V_iload_n (i := 1) dX8_account_104 rfl rfl ?_
      refine VL_21 dX8_account_105 hA rfl (by omega) ?_
      refine V_iret dX8_account_106 rfl (Nat.le_of_ble_eq_true rfl) (Nat.le_of_ble_eq_true rfl) ?_
      refine kfin ?_ rfl
      first
        | rfl
        | (rw [h5]; rfl)
        | (rw [h11]; rfl)
        | (rw [h1]; rfl)
    · refine V_tableIn (tgt := 100) dX8_account_20 (by decide) (by decide) rfl (by decide) ?_
      refine V_aload_n (i := 0) dX8_account_100 rfl rfl ?_
      refine V_getf fl_X8_9 dX8_account_101 (hp20 hA) rfl ?_
      refine V_iload_n (i := 1) dX8_account_104 rfl rfl ?_
      refine VL_21 dX8_account_105 hA rfl (by omega) ?_
      refine V_iret dX8_account_106 rfl (Nat.le_of_ble_eq_true rfl) (Nat.le_of_ble_eq_true rfl) ?_
      refine kfin ?_ rfl
      first
        | rfl
        | (rw [h5]; rfl)
        | (rw [h11]; rfl)
        | (rw [h1]; rfl)
    · refine V_tableIn (tgt := 100) dX8_account_20 (by decide) (by decide) rfl (by decide) ?_
      refine V_aload_n (i := 0) dX8_account_100 rfl rfl ?_
      refine V_getf fl_X8_9 dX8_account_101 (hp20 hA) rfl ?_
      refine V_iload_n (i := 1) dX8_account_104 rfl rfl ?_
      refine VL_21 dX8_account_105 hA rfl (by omega) ?_
      refine V_iret dX8_account_106 rfl (Nat.le_of_ble_eq_true rfl) (Nat.le_of_ble_eq_true rfl) ?_
      refine kfin ?_ rfl
      first
        | rfl
        | (rw [h5]; rfl)
        | (rw [h11]; rfl)
        | (rw [h1]; rfl)
    · refine V_tableIn (tgt := 100) dX8_account_20 (by decide) (by decide) rfl (by decide) ?_
      refine V_aload_n (i := 0) dX8_account_100 rfl rfl ?_
      refine V_getf fl_X8_9 dX8_account_101 (hp20 hA) rfl ?_
      refine V_iload_n (i := 1) dX8_account_104 rfl rfl ?_
      refine VL_21 dX8_account_105 hA rfl (by omega) ?_
      refine V_iret dX8_account_106 rfl (Nat.le_of_ble_eq_true rfl) (Nat.le_of_ble_eq_true rfl) ?_
      refine kfin ?_ rfl
      first
        | rfl
        | (rw [h5]; rfl)
        | (rw [h11]; rfl)
        | (rw [h1]; rfl)
    · refine V_tableIn (tgt := 100) dX8_account_20 (by decide) (by decide) rfl (by decide) ?_
      refine V_aload_n (i := 0) dX8_account_100 rfl rfl ?_
      refine V_getf fl_X8_9 dX8_account_101 (hp20 hA) rfl ?_
      refine V_iload_n (i := 1) dX8_account_104 rfl rfl ?_
      refine VL_21 dX8_account_105 hA rfl (by omega) ?_
      refine V_iret dX8_account_106 rfl (Nat.le_of_ble_eq_true rfl) (Nat.le_of_ble_eq_true rfl) ?_
      refine kfin ?_ rfl
      first
        | rfl
        | (rw [h5]; rfl)
        | (rw [h11]; rfl)
        | (rw [h1]; rfl)
    · refine V_tableIn (tgt := 100) dX8_account_20 (by decide) (by decide) rfl (by decide) ?_
      refine V_aload_n (i := 0) dX8_account_100 rfl rfl ?_
      refine V_getf fl_X8_9 dX8_account_101 (hp20 hA) rfl ?_
      refine V_iload_n (i := 1) dX8_account_104 rfl rfl ?_
      refine VL_21 dX8_account_105 hA rfl (by omega) ?_
      refine V_iret dX8_account_106 rfl (Nat.le_of_ble_eq_true rfl) (Nat.le_of_ble_eq_true rfl) ?_
      refine kfin ?_ rfl
      first
        | rfl
        | (rw [h5]; rfl)
        | (rw [h11]; rfl)
        | (rw [h1]; rfl)
    · refine V_tableIn (tgt := 107) dX8_account_20 (by decide) (by decide) rfl (by decide) ?_
      refine V_aload_n (i := 0) dX8_account_107 rfl rfl ?_
      refine V_iconst (v := nI 3) dX8_account_108 (by decide) ?_
      refine Cv1_1 (d := 2) cv_X8_159 dX8_account_109 (t_X8_sum hA h1 hn8 (by decide)) (hp20 hA) rfl rfl (Nat.le_of_ble_eq_true rfl) ⟨Nat.le_refl _, Nat.le_refl _⟩ (by decide) ⟨Nat.le_of_ble_eq_true rfl, Nat.le_of_ble_eq_true rfl⟩ ?_
      refine V_iret dX8_account_112 rfl (Nat.le_of_ble_eq_true rfl) (Nat.le_of_ble_eq_true rfl) ?_
      refine kfin ?_ rfl
      first
        | rfl
        | (rw [h5]; rfl)
        | (rw [h11]; rfl)
        | (rw [h1]; rfl)
    · refine V_tableIn (tgt := 113) dX8_account_20 (by decide) (by decide) rfl (by decide) ?_
      refine V_aload_n (i := 0) dX8_account_113 rfl rfl ?_
      refine V_iconst (v := nI 4) dX8_account_114 (by decide) ?_
      refine Cv1_1 (d := 2) cv_X8_159 dX8_account_115 (t_X8_sum hA h1 hn8 (by decide)) (hp20 hA) rfl rfl (Nat.le_of_ble_eq_true rfl) ⟨Nat.le_refl _, Nat.le_refl _⟩ (by decide) ⟨Nat.le_of_ble_eq_true rfl, Nat.le_of_ble_eq_true rfl⟩ ?_
      refine V_iret dX8_account_118 rfl (Nat.le_of_ble_eq_true rfl) (Nat.le_of_ble_eq_true rfl) ?_
      refine kfin ?_ rfl
      first
        | rfl
        | (rw [h5]; rfl)
        | (rw [h11]; rfl)
        | (rw [h1]; rfl)
    · refine V_tableIn (tgt := 119) dX8_account_20 (by decide) (by decide) rfl (by decide) ?_
      refine V_aload_n (i := 0) dX8_account_119 rfl rfl ?_
      refine V_iconst (v := nI 5) dX8_account_120 (by decide) ?_
      refine Cv1_1 (d := 2) cv_X8_159 dX8_account_121 (t_X8_sum hA h1 hn8 (by decide)) (hp20 hA) rfl rfl (Nat.le_of_ble_eq_true rfl) ⟨Nat.le_refl _, Nat.le_refl _⟩ (by decide) ⟨Nat.le_of_ble_eq_true rfl, Nat.le_of_ble_eq_true rfl⟩ ?_
      refine V_iret dX8_account_124 rfl (Nat.le_of_ble_eq_true rfl) (Nat.le_of_ble_eq_true rfl) ?_
      refine kfin ?_ rfl
      first
        | rfl
        | (rw [h5]; rfl)
        | (rw [h11]; rfl)
        | (rw [h1]; rfl)
    · refine V_tableIn (tgt := 125) dX8_account_20 (by decide) (by decide) rfl (by decide) ?_
      refine V_aload_n (i := 0) dX8_account_125 rfl rfl ?_
      refine V_getf fl_X8_9 dX8_account_126 (hp20 hA) rfl ?_
      refine V_bipush (v := nI 6) dX8_account_129 (by decide) ?_
      refine VL_21 dX8_account_131 hA rfl (by omega) ?_
      refine V_iret dX8_account_132 rfl (Nat.le_of_ble_eq_true rfl) (Nat.le_of_ble_eq_true rfl) ?_
      refine kfin ?_ rfl
      first
        | rfl
        | (rw [h5]; rfl)
        | (rw [h11]; rfl)
        | (rw [h1]; rfl)
    · refine V_tableIn (tgt := 133) dX8_account_20 (by decide) (by decide) rfl (by decide) ?_
      refine V_aload_n (i := 0) dX8_account_133 rfl rfl ?_
      refine V_getf fl_X8_9 dX8_account_134 (hp20 hA) rfl ?_
      refine V_bipush (v := nI 7) dX8_account_137 (by decide) ?_
      refine VL_21 dX8_account_139 hA rfl (by omega) ?_
      refine V_iret dX8_account_140 rfl (Nat.le_of_ble_eq_true rfl) (Nat.le_of_ble_eq_true rfl) ?_
      refine kfin ?_ rfl
      first
        | rfl
        | (rw [h5]; rfl)
        | (rw [h11]; rfl)
        | (rw [h1]; rfl)
    · refine V_tableIn (tgt := 141) dX8_account_20 (by decide) (by decide) rfl (by decide) ?_
      refine V_aload_n (i := 0) dX8_account_141 rfl rfl ?_
      refine V_getf fl_X8_9 dX8_account_142 (hp20 hA) rfl ?_
      refine V_bipush (v := nI 8) dX8_account_145 (by decide) ?_
      refine VL_21 dX8_account_147 hA rfl (by omega) ?_
      refine V_iret dX8_account_148 rfl (Nat.le_of_ble_eq_true rfl) (Nat.le_of_ble_eq_true rfl) ?_
      refine kfin ?_ rfl
      first
        | rfl
        | (rw [h5]; rfl)
        | (rw [h11]; rfl)
        | (rw [h1]; rfl)
    · refine V_tableIn (tgt := 149) dX8_account_20 (by decide) (by decide) rfl (by decide) ?_
      refine V_aload_n (i := 0) dX8_account_149 rfl rfl ?_
      refine Cv1_0 (d := 2) cv_X8_121 dX8_account_150 (t_X8_shoes hA) (hp20 hA) rfl rfl (Nat.le_of_ble_eq_true rfl) ⟨Nat.le_refl _, Nat.le_refl _⟩ (by decide) ⟨Nat.le_of_ble_eq_true rfl, Nat.le_of_ble_eq_true rfl⟩ ?_
      refine V_iret dX8_account_153 rfl (Nat.le_of_ble_eq_true rfl) (Nat.le_of_ble_eq_true rfl) ?_
      refine kfin ?_ rfl
      first
        | rfl
        | (rw [h5]; rfl)
        | (rw [h11]; rfl)
        | (rw [h1]; rfl)
    · refine V_tableIn (tgt := 154) dX8_account_20 (by decide) (by decide) rfl (by decide) ?_
      refine V_aload_n (i := 0) dX8_account_154 rfl rfl ?_
      refine V_getf fl_X8_9 dX8_account_155 (hp20 hA) rfl ?_
      refine V_bipush (v := nI 9) dX8_account_158 (by decide) ?_
      refine VL_21 dX8_account_160 hA rfl (by omega) ?_
      refine V_iret dX8_account_161 rfl (Nat.le_of_ble_eq_true rfl) (Nat.le_of_ble_eq_true rfl) ?_
      refine kfin ?_ rfl
      first
        | rfl
        | (rw [h5]; rfl)
        | (rw [h11]; rfl)
        | (rw [h1]; rfl)
    · refine V_tableIn (tgt := 162) dX8_account_20 (by decide) (by decide) rfl (by decide) ?_
      refine V_aload_n (i := 0) dX8_account_162 rfl rfl ?_
      refine V_getf fl_X8_51 dX8_account_163 (hp20 hA) rfl ?_
      refine V_iret dX8_account_166 rfl (Nat.le_of_ble_eq_true rfl) (Nat.le_of_ble_eq_true rfl) ?_
      refine kfin ?_ rfl
      first
        | rfl
        | (rw [h5]; rfl)
        | (rw [h11]; rfl)
        | (rw [h1]; rfl)
    · refine V_tableIn (tgt := 167) dX8_account_20 (by decide) (by decide) rfl (by decide) ?_
      refine V_aload_n (i := 0) dX8_account_167 rfl rfl ?_
      refine V_getf fl_X8_181 dX8_account_168 (hp20 hA) rfl ?_
      refine V_iret dX8_account_171 rfl (Nat.le_of_ble_eq_true rfl) (Nat.le_of_ble_eq_true rfl) ?_
      refine kfin ?_ rfl
      first
        | rfl
        | (rw [h5]; rfl)
        | (rw [h11]; rfl)
        | (rw [h1]; rfl)

set_option maxHeartbeats 4000000 in
set_option maxRecDepth 100000 in
theorem t_X8_meanArrears {D : va_G} {s0 : State} {l : Launch} {B : Nat} {A : AT} {σ : Sg} (hA : AOK B A) {P : Int32 × Int32} {u : Nat → Int32} {nh : Nat} (h1 : u 1 = nI nh) (hn8 : nh ≤ 8) : Tri D s0 l yX8_meanArrears cX8_meanArrears 1 ((some .float)) 2 0 0 [.ref (A 20 0 0)] (HP A (rs σ P u)) (fun r G' => r = some (.float (meanV u nh)) ∧ G' = HP A (rs (tS σ (if u 1 = 0 then 1 else 0)) P u)) noX := by
  refine Tri.ofV (own := RX8) (mn := "meanArrears") (by decide +kernel) rfl rfl (Nat.le_of_ble_eq_true rfl) ?_
  refine V_aload_n (i := 0) dX8_meanArrears_0 rfl rfl ?_
  refine V_aload_n (i := 0) dX8_meanArrears_1 rfl rfl ?_
  refine V_getf fl_X8_9 dX8_meanArrears_2 (hp20 hA) rfl ?_
  refine V_iconst (v := nI 1) dX8_meanArrears_5 (by decide) ?_
  refine VL_21 dX8_meanArrears_6 hA rfl (by omega) ?_
  refine V_if_ne (tgt := 14) dX8_meanArrears_7 (by decide) (fun h7 => ?_) (fun h7 => ?_)
  · refine V_iconst (v := 0) dX8_meanArrears_14 (by decide) ?_
    refine VP6 fl_X8_38 dX8_meanArrears_15 hA ?_
    refine V_aload_n (i := 0) dX8_meanArrears_18 rfl rfl ?_
    refine V_getf fl_X8_38 dX8_meanArrears_19 (hp20 hA) rfl ?_
    refine V_if_ne (tgt := 42) dX8_meanArrears_22 (by decide) (fun h22 => by first | exact absurd h22 ((by rw [rs_6]; decide)) | exact absurd ((by rw [rs_6]; decide)) h22) (fun _ => ?_)
    refine V_aload_n (i := 0) dX8_meanArrears_25 rfl rfl ?_
    refine V_iconst (v := nI 4) dX8_meanArrears_26 (by decide) ?_
    refine Cv1_1 (d := 2) cv_X8_159 dX8_meanArrears_27 (t_X8_sum hA h1 hn8 (by decide)) (hp20 hA) rfl rfl (Nat.le_of_ble_eq_true rfl) ⟨Nat.le_refl _, Nat.le_refl _⟩ (by decide) ⟨Nat.le_of_ble_eq_true rfl, Nat.le_of_ble_eq_true rfl⟩ ?_
    refine V_i2f dX8_meanArrears_30 ?_
    refine V_aload_n (i := 0) dX8_meanArrears_31 rfl rfl ?_
    refine V_getf fl_X8_9 dX8_meanArrears_32 (hp20 hA) rfl ?_
    refine V_iconst (v := nI 1) dX8_meanArrears_35 (by decide) ?_
    refine VL_21 dX8_meanArrears_36 hA rfl (by omega) ?_
    refine V_i2f dX8_meanArrears_37 ?_
    refine V_fdiv dX8_meanArrears_38 (fdiv_n h7) ?_
    refine V_goto (tgt := 43) dX8_meanArrears_39 (by decide) ?_
    refine V_fret dX8_meanArrears_43 rfl (Nat.le_of_ble_eq_true rfl) (Nat.le_of_ble_eq_true rfl) ?_
    first
      | (rw [meanV, if_pos h7, if_pos h7]; exact ⟨rfl, rfl⟩)
      | (rw [meanV, if_neg h7, if_neg h7]; exact ⟨rfl, rfl⟩)
  · refine V_iconst (v := 1) dX8_meanArrears_10 (by decide) ?_
    refine V_goto (tgt := 15) dX8_meanArrears_11 (by decide) ?_
    refine VP6 fl_X8_38 dX8_meanArrears_15 hA ?_
    refine V_aload_n (i := 0) dX8_meanArrears_18 rfl rfl ?_
    refine V_getf fl_X8_38 dX8_meanArrears_19 (hp20 hA) rfl ?_
    refine V_if_ne (tgt := 42) dX8_meanArrears_22 (by decide) (fun _ => ?_) (fun h22 => by first | exact absurd ((by rw [rs_6]; decide)) h22 | exact absurd h22 ((by rw [rs_6]; decide)))
    refine V_fconst0 dX8_meanArrears_42 ?_
    refine V_fret dX8_meanArrears_43 rfl (Nat.le_of_ble_eq_true rfl) (Nat.le_of_ble_eq_true rfl) ?_
    first
      | (rw [meanV, if_pos h7, if_pos h7]; exact ⟨rfl, rfl⟩)
      | (rw [meanV, if_neg h7, if_neg h7]; exact ⟨rfl, rfl⟩)

set_option maxHeartbeats 4000000 in
set_option maxRecDepth 100000 in
theorem t_X8_paidShare {D : va_G} {s0 : State} {l : Launch} {B : Nat} {A : AT} {σ : Sg} (hA : AOK B A) {P : Int32 × Int32} {u : Nat → Int32} {nh : Nat} (h1 : u 1 = nI nh) (hn8 : nh ≤ 8) : Tri D s0 l yX8_paidShare cX8_paidShare 2 ((some .double)) 2 0 0 [.ref (A 20 0 0)] (HP A (rs σ P u)) (fun r G' => r = some (.double (shareV u nh)) ∧ G' = HP A (rs (tS σ (if u 7 + S_sum u nh 4 = 0 then 1 else 0)) P u)) noX := by
  refine Tri.ofV (own := RX8) (mn := "paidShare") (by decide +kernel) rfl rfl (Nat.le_of_ble_eq_true rfl) ?_
  refine V_aload_n (i := 0) dX8_paidShare_0 rfl rfl ?_
  refine V_getf fl_X8_9 dX8_paidShare_1 (hp20 hA) rfl ?_
  refine V_bipush (v := nI 7) dX8_paidShare_4 (by decide) ?_
  refine VL_21 dX8_paidShare_6 hA rfl (by omega) ?_
  refine V_aload_n (i := 0) dX8_paidShare_7 rfl rfl ?_
  refine V_iconst (v := nI 4) dX8_paidShare_8 (by decide) ?_
  refine Cv1_1 (d := 2) cv_X8_159 dX8_paidShare_9 (t_X8_sum hA h1 hn8 (by decide)) (hp20 hA) rfl rfl (Nat.le_of_ble_eq_true rfl) ⟨Nat.le_refl _, Nat.le_refl _⟩ (by decide) ⟨Nat.le_of_ble_eq_true rfl, Nat.le_of_ble_eq_true rfl⟩ ?_
  refine V_iadd dX8_paidShare_12 ?_
  refine V_istore_n (i := 1) dX8_paidShare_13 rfl (by decide) ?_
  refine V_aload_n (i := 0) dX8_paidShare_14 rfl rfl ?_
  refine V_iload_n (i := 1) dX8_paidShare_15 rfl rfl ?_
  refine V_if_ne (tgt := 23) dX8_paidShare_16 (by decide) (fun h16 => ?_) (fun h16 => ?_)
  · refine V_iconst (v := 0) dX8_paidShare_23 (by decide) ?_
    refine VP6 fl_X8_38 dX8_paidShare_24 hA ?_
    refine V_aload_n (i := 0) dX8_paidShare_27 rfl rfl ?_
    refine V_getf fl_X8_38 dX8_paidShare_28 (hp20 hA) rfl ?_
    refine V_if_ne (tgt := 48) dX8_paidShare_31 (by decide) (fun h31 => by first | exact absurd h31 ((by rw [rs_6]; decide)) | exact absurd ((by rw [rs_6]; decide)) h31) (fun _ => ?_)
    refine V_aload_n (i := 0) dX8_paidShare_34 rfl rfl ?_
    refine V_getf fl_X8_9 dX8_paidShare_35 (hp20 hA) rfl ?_
    refine V_bipush (v := nI 7) dX8_paidShare_38 (by decide) ?_
    refine VL_21 dX8_paidShare_40 hA rfl (by omega) ?_
    refine V_i2d dX8_paidShare_41 ?_
    refine V_iload_n (i := 1) dX8_paidShare_42 rfl rfl ?_
    refine V_i2d dX8_paidShare_43 ?_
    refine V_ddiv dX8_paidShare_44 (ddiv_n h16) ?_
    refine V_goto (tgt := 49) dX8_paidShare_45 (by decide) ?_
    refine V_dret dX8_paidShare_49 rfl (Nat.le_of_ble_eq_true rfl) (Nat.le_of_ble_eq_true rfl) ?_
    first
      | (rw [shareV, if_pos h16, if_pos h16]; exact ⟨rfl, rfl⟩)
      | (rw [shareV, if_neg h16, if_neg h16]; exact ⟨rfl, rfl⟩)
  · refine V_iconst (v := 1) dX8_paidShare_19 (by decide) ?_
    refine V_goto (tgt := 24) dX8_paidShare_20 (by decide) ?_
    refine VP6 fl_X8_38 dX8_paidShare_24 hA ?_
    refine V_aload_n (i := 0) dX8_paidShare_27 rfl rfl ?_
    refine V_getf fl_X8_38 dX8_paidShare_28 (hp20 hA) rfl ?_
    refine V_if_ne (tgt := 48) dX8_paidShare_31 (by decide) (fun _ => ?_) (fun h31 => by first | exact absurd ((by rw [rs_6]; decide)) h31 | exact absurd h31 ((by rw [rs_6]; decide)))
    refine V_dconst0 dX8_paidShare_48 ?_
    refine V_dret dX8_paidShare_49 rfl (Nat.le_of_ble_eq_true rfl) (Nat.le_of_ble_eq_true rfl) ?_
    first
      | (rw [shareV, if_pos h16, if_pos h16]; exact ⟨rfl, rfl⟩)
      | (rw [shareV, if_neg h16, if_neg h16]; exact ⟨rfl, rfl⟩)
