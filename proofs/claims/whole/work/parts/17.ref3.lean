/-! the reference: days, commands, the face's changes -/
def R_cmd (u : Nat → Int32) (P : Int32 × Int32) (nh nc pl q : Nat) (a b : Int32) : ST := match q with
  | 0 => R_drive u P a
  | 1 => R_load u P a
  | 2 => R_carry u P nc pl a b
  | 3 => R_bone u P pl
  | 4 => R_mop u P nc pl a
  | 5 => R_pay u P nh a b
  | 6 => R_shoe u P a
  | _ => R_days u P nh nc a

set_option maxHeartbeats 4000000 in
set_option maxRecDepth 100000 in
theorem t_X8_dayGoes {D : va_G} {s0 : State} {l : Launch} {B : Nat} {A : AT} {σ : Sg} (hA : AOK B A) {P : Int32 × Int32} {u : Nat → Int32} {nh : Nat} (h1 : u 1 = nI nh) (hn8 : nh ≤ 8) {nc : Nat} (h2 : u 2 = nI nc) (hm : nc ≤ 4) : Tri D s0 l yX8_dayGoes cX8_dayGoes 2 (none) 1 0 0 [.ref (A 20 0 0)] (HP A (rs σ P u)) (fun r G' => r = none ∧ G' = HP A (rs σ P (R_day u nh nc))) noX := by
  refine Tri.ofV (own := RX8) (mn := "dayGoes") (by decide +kernel) rfl rfl (Nat.le_of_ble_eq_true rfl) ?_
  have loopH : ∀ n i : Nat, i + n = nh → V D s0 RX8 "dayGoes" cX8_dayGoes 2 (none) [] l (rmd 1 0 0) (Zm D s0 0 0 (fun r G' => r = none ∧ G' = HP A (rs σ P (R_day u nh nc))) noX) 56 [(0, .ref (A 20 0 0)), (1, .int (nI i))] [] (HP A (rs σ P (S_dayh (S_dayc (up u 0 (u 0 + 1)) nc) (S_new (up u 0 (u 0 + 1))) i))) 0 0 := by
    intro n
    induction n with
    | zero =>
      intro i hi9
      obtain rfl : nh = i := by omega
      refine V_iload_n (i := 1) dX8_dayGoes_56 rfl rfl ?_
      refine V_aload_n (i := 0) dX8_dayGoes_57 rfl rfl ?_
      refine V_getf fl_X8_9 dX8_dayGoes_58 (hp20 hA) rfl ?_
      refine V_iconst (v := nI 1) dX8_dayGoes_61 (by decide) ?_
      refine VL_21 dX8_dayGoes_62 hA rfl (by omega) ?_
      refine V_icmp_ge (tgt := 133) dX8_dayGoes_63 (by decide) (fun _ => ?_) (fun h63 => by first | exact absurd (by rw [S_dayh_lo (by decide), S_dayc_lo (by decide), up_ne (by decide), h1]; exact nI_le (Nat.le_refl _) (by omega)) h63 | exact absurd h63 (by rw [S_dayh_lo (by decide), S_dayc_lo (by decide), up_ne (by decide), h1]; exact nI_le (Nat.le_refl _) (by omega)))
      refine V_vret dX8_dayGoes_133 rfl (Nat.le_of_ble_eq_true rfl) (Nat.le_of_ble_eq_true rfl) ?_
      exact ⟨rfl, rfl⟩
    | succ n ih =>
      intro i hi9
      have k9 := ih (i + 1) (by omega)
      have hi8 : i < nh := by omega
      refine V_iload_n (i := 1) dX8_dayGoes_56 rfl rfl ?_
      refine V_aload_n (i := 0) dX8_dayGoes_57 rfl rfl ?_
      refine V_getf fl_X8_9 dX8_dayGoes_58 (hp20 hA) rfl ?_
      refine V_iconst (v := nI 1) dX8_dayGoes_61 (by decide) ?_
      refine VL_21 dX8_dayGoes_62 hA rfl (by omega) ?_
      refine V_icmp_ge (tgt := 133) dX8_dayGoes_63 (by decide) (fun h63 => by first | exact absurd h63 (by rw [S_dayh_lo (by decide), S_dayc_lo (by decide), up_ne (by decide), h1]; exact nI_ge (by omega) (by omega)) | exact absurd (by rw [S_dayh_lo (by decide), S_dayc_lo (by decide), up_ne (by decide), h1]; exact nI_ge (by omega) (by omega)) h63) (fun _ => ?_)
      refine V_aload_n (i := 0) dX8_dayGoes_66 rfl rfl ?_
      refine V_iload_n (i := 1) dX8_dayGoes_67 rfl rfl ?_
      refine V_bipush (v := nI 6) dX8_dayGoes_68 (by decide) ?_
      refine V_iconst (v := 0) dX8_dayGoes_70 (by decide) ?_
      refine Cv0_3 (d := 1) cv_X8_96 dX8_dayGoes_71 (t_X8_becomes hA (by omega) (by decide)) (hp20 hA) rfl rfl (Nat.le_of_ble_eq_true rfl) ⟨Nat.le_refl _, Nat.le_refl _⟩ (by decide) ⟨Nat.le_of_ble_eq_true rfl, Nat.le_of_ble_eq_true rfl⟩ ?_
      refine V_aload_n (i := 0) dX8_dayGoes_74 rfl rfl ?_
      refine V_iload_n (i := 1) dX8_dayGoes_75 rfl rfl ?_
      refine V_bipush (v := nI 7) dX8_dayGoes_76 (by decide) ?_
      refine V_iconst (v := 0) dX8_dayGoes_78 (by decide) ?_
      refine Cv0_3 (d := 1) cv_X8_96 dX8_dayGoes_79 (t_X8_becomes hA (by omega) (by decide)) (hp20 hA) rfl rfl (Nat.le_of_ble_eq_true rfl) ⟨Nat.le_refl _, Nat.le_refl _⟩ (by decide) ⟨Nat.le_of_ble_eq_true rfl, Nat.le_of_ble_eq_true rfl⟩ ?_
      refine V_aload_n (i := 0) dX8_dayGoes_82 rfl rfl ?_
      refine V_iload_n (i := 1) dX8_dayGoes_83 rfl rfl ?_
      refine V_iconst (v := nI 3) dX8_dayGoes_84 (by decide) ?_
      refine V_aload_n (i := 0) dX8_dayGoes_85 rfl rfl ?_
      refine V_getf fl_X8_9 dX8_dayGoes_86 (hp20 hA) rfl ?_
      refine V_iconst (v := nI 0) dX8_dayGoes_89 (by decide) ?_
      refine VL_21 dX8_dayGoes_90 hA rfl (by omega) ?_
      rw [show (up (up (S_dayh (S_dayc (up u 0 (u 0 + 1)) nc) (S_new (up u 0 (u 0 + 1))) i) (hx i 6) 0) (hx i 7) 0) 0 = (up u 0 (u 0 + 1)) 0 from by rw [up_ne (fun q => hl_ne (by decide) q.symm), up_ne (fun q => hl_ne (by decide) q.symm), S_dayh_lo (by decide), S_dayc_lo (by decide)]]
      refine V_bipush (v := 7) dX8_dayGoes_91 (by decide) ?_
      refine V_irem dX8_dayGoes_93 (by decide) ?_
      refine V_if_ne (tgt := 118) dX8_dayGoes_94 (by decide) (fun h94 => ?_) (fun h94 => ?_)
      · refine V_aload_n (i := 0) dX8_dayGoes_118 rfl rfl ?_
        refine V_iload_n (i := 1) dX8_dayGoes_119 rfl rfl ?_
        refine V_iconst (v := nI 3) dX8_dayGoes_120 (by decide) ?_
        refine Cv1_2 (d := 1) cv_X8_74 dX8_dayGoes_121 (t_X8_of hA (by omega) (by decide)) (hp20 hA) rfl rfl (Nat.le_of_ble_eq_true rfl) ⟨Nat.le_refl _, Nat.le_refl _⟩ (by decide) ⟨Nat.le_of_ble_eq_true rfl, Nat.le_of_ble_eq_true rfl⟩ ?_
        refine Cv0_3 (d := 1) cv_X8_96 dX8_dayGoes_124 (t_X8_becomes hA (by omega) (by decide)) (hp20 hA) rfl rfl (Nat.le_of_ble_eq_true rfl) ⟨Nat.le_refl _, Nat.le_refl _⟩ (by decide) ⟨Nat.le_of_ble_eq_true rfl, Nat.le_of_ble_eq_true rfl⟩ ?_
        refine V_iinc (i := 1) dX8_dayGoes_127 rfl (inc1 _) (by decide) ?_
        refine V_goto (tgt := 56) dX8_dayGoes_130 (by decide) ?_
        refine V.fin [1, 0] rfl (congrArg (HP A) ?_) k9
        first
          | (rw [up_self, S_dayh, if_neg (by rw [S_new, decide_eq_true_eq]; exact h94)]; rfl)
          | (rw [S_dayh, if_pos (show (S_new (up u 0 (u 0 + 1))) = true from decide_eq_true h94)]; rfl)
      · refine V_bipush (v := 20) dX8_dayGoes_97 (by decide) ?_
        refine V_aload_n (i := 0) dX8_dayGoes_99 rfl rfl ?_
        refine V_iload_n (i := 1) dX8_dayGoes_100 rfl rfl ?_
        refine V_iconst (v := nI 3) dX8_dayGoes_101 (by decide) ?_
        refine Cv1_2 (d := 1) cv_X8_74 dX8_dayGoes_102 (t_X8_of hA (by omega) (by decide)) (hp20 hA) rfl rfl (Nat.le_of_ble_eq_true rfl) ⟨Nat.le_refl _, Nat.le_refl _⟩ (by decide) ⟨Nat.le_of_ble_eq_true rfl, Nat.le_of_ble_eq_true rfl⟩ ?_
        refine V_aload_n (i := 0) dX8_dayGoes_105 rfl rfl ?_
        refine V_iload_n (i := 1) dX8_dayGoes_106 rfl rfl ?_
        refine V_iconst (v := nI 2) dX8_dayGoes_107 (by decide) ?_
        refine Cv1_2 (d := 1) cv_X8_74 dX8_dayGoes_108 (t_X8_of hA (by omega) (by decide)) (hp20 hA) rfl rfl (Nat.le_of_ble_eq_true rfl) ⟨Nat.le_refl _, Nat.le_refl _⟩ (by decide) ⟨Nat.le_of_ble_eq_true rfl, Nat.le_of_ble_eq_true rfl⟩ ?_
        refine V_iadd dX8_dayGoes_111 ?_
        refine V_mmin cm_X8_125 dX8_dayGoes_112 (Nat.le_of_ble_eq_true rfl) (Nat.le_of_ble_eq_true rfl) (Nat.le_of_ble_eq_true rfl) (Nat.le_of_ble_eq_true rfl) ?_
        refine V_goto (tgt := 124) dX8_dayGoes_115 (by decide) ?_
        refine Cv0_3 (d := 1) cv_X8_96 dX8_dayGoes_124 (t_X8_becomes hA (by omega) (by decide)) (hp20 hA) rfl rfl (Nat.le_of_ble_eq_true rfl) ⟨Nat.le_refl _, Nat.le_refl _⟩ (by decide) ⟨Nat.le_of_ble_eq_true rfl, Nat.le_of_ble_eq_true rfl⟩ ?_
        refine V_iinc (i := 1) dX8_dayGoes_127 rfl (inc1 _) (by decide) ?_
        refine V_goto (tgt := 56) dX8_dayGoes_130 (by decide) ?_
        refine V.fin [1, 0] rfl (congrArg (HP A) ?_) k9
        first
          | (rw [up_self, S_dayh, if_neg (by rw [S_new, decide_eq_true_eq]; exact h94)]; rfl)
          | (rw [S_dayh, if_pos (show (S_new (up u 0 (u 0 + 1))) = true from decide_eq_true h94)]; rfl)
  have loopC : ∀ n i : Nat, i + n = nc → V D s0 RX8 "dayGoes" cX8_dayGoes 2 (none) [] l (rmd 1 0 0) (Zm D s0 0 0 (fun r G' => r = none ∧ G' = HP A (rs σ P (R_day u nh nc))) noX) 12 [(0, .ref (A 20 0 0)), (1, .int (nI i))] [] (HP A (rs σ P (S_dayc (up u 0 (u 0 + 1)) i))) 0 0 := by
    intro n
    induction n with
    | zero =>
      intro i hi9
      obtain rfl : nc = i := by omega
      refine V_iload_n (i := 1) dX8_dayGoes_12 rfl rfl ?_
      refine V_aload_n (i := 0) dX8_dayGoes_13 rfl rfl ?_
      refine V_getf fl_X8_9 dX8_dayGoes_14 (hp20 hA) rfl ?_
      refine V_iconst (v := nI 2) dX8_dayGoes_17 (by decide) ?_
      refine VL_21 dX8_dayGoes_18 hA rfl (by omega) ?_
      refine V_icmp_ge (tgt := 54) dX8_dayGoes_19 (by decide) (fun _ => ?_) (fun h19 => by first | exact absurd (by rw [S_dayc_lo (by decide), up_ne (by decide), h2]; exact nI_le (Nat.le_refl _) (by omega)) h19 | exact absurd h19 (by rw [S_dayc_lo (by decide), up_ne (by decide), h2]; exact nI_le (Nat.le_refl _) (by omega)))
      refine V_iconst (v := nI 0) dX8_dayGoes_54 (by decide) ?_
      refine V_istore_n (i := 1) dX8_dayGoes_55 rfl (by decide) ?_
      exact V.fin [1, 0] rfl rfl (loopH nh 0 (by omega))
    | succ n ih =>
      intro i hi9
      have k9 := ih (i + 1) (by omega)
      have hi8 : i < nc := by omega
      refine V_iload_n (i := 1) dX8_dayGoes_12 rfl rfl ?_
      refine V_aload_n (i := 0) dX8_dayGoes_13 rfl rfl ?_
      refine V_getf fl_X8_9 dX8_dayGoes_14 (hp20 hA) rfl ?_
      refine V_iconst (v := nI 2) dX8_dayGoes_17 (by decide) ?_
      refine VL_21 dX8_dayGoes_18 hA rfl (by omega) ?_
      refine V_icmp_ge (tgt := 54) dX8_dayGoes_19 (by decide) (fun h19 => by first | exact absurd h19 (by rw [S_dayc_lo (by decide), up_ne (by decide), h2]; exact nI_ge (by omega) (by omega)) | exact absurd (by rw [S_dayc_lo (by decide), up_ne (by decide), h2]; exact nI_ge (by omega) (by omega)) h19) (fun _ => ?_)
      refine V_aload_n (i := 0) dX8_dayGoes_22 rfl rfl ?_
      refine V_iload_n (i := 1) dX8_dayGoes_23 rfl rfl ?_
      refine V_iconst (v := nI 1) dX8_dayGoes_24 (by decide) ?_
      refine V_iconst (v := 0) dX8_dayGoes_25 (by decide) ?_
      refine V_aload_n (i := 0) dX8_dayGoes_26 rfl rfl ?_
      refine V_iload_n (i := 1) dX8_dayGoes_27 rfl rfl ?_
      refine V_iconst (v := nI 1) dX8_dayGoes_28 (by decide) ?_
      refine Cv1_2 (d := 1) cv_X8_83 dX8_dayGoes_29 (t_X8_ofCarrier hA (by omega) (by decide)) (hp20 hA) rfl rfl (Nat.le_of_ble_eq_true rfl) ⟨Nat.le_refl _, Nat.le_refl _⟩ (by decide) ⟨Nat.le_of_ble_eq_true rfl, Nat.le_of_ble_eq_true rfl⟩ ?_
      refine V_bipush (v := 8) dX8_dayGoes_32 (by decide) ?_
      refine V_isub dX8_dayGoes_34 ?_
      refine V_mmax cm_X8_78 dX8_dayGoes_35 (Nat.le_of_ble_eq_true rfl) (Nat.le_of_ble_eq_true rfl) (Nat.le_of_ble_eq_true rfl) (Nat.le_of_ble_eq_true rfl) ?_
      refine Cv0_3 (d := 1) cv_X8_108 dX8_dayGoes_38 (t_X8_carrierBecomes hA (by omega) (by decide)) (hp20 hA) rfl rfl (Nat.le_of_ble_eq_true rfl) ⟨Nat.le_refl _, Nat.le_refl _⟩ (by decide) ⟨Nat.le_of_ble_eq_true rfl, Nat.le_of_ble_eq_true rfl⟩ ?_
      refine V_aload_n (i := 0) dX8_dayGoes_41 rfl rfl ?_
      refine V_iload_n (i := 1) dX8_dayGoes_42 rfl rfl ?_
      refine V_iconst (v := nI 2) dX8_dayGoes_43 (by decide) ?_
      refine V_iconst (v := 0) dX8_dayGoes_44 (by decide) ?_
      refine Cv0_3 (d := 1) cv_X8_108 dX8_dayGoes_45 (t_X8_carrierBecomes hA (by omega) (by decide)) (hp20 hA) rfl rfl (Nat.le_of_ble_eq_true rfl) ⟨Nat.le_refl _, Nat.le_refl _⟩ (by decide) ⟨Nat.le_of_ble_eq_true rfl, Nat.le_of_ble_eq_true rfl⟩ ?_
      refine V_iinc (i := 1) dX8_dayGoes_48 rfl (inc1 _) (by decide) ?_
      refine V_goto (tgt := 12) dX8_dayGoes_51 (by decide) ?_
      refine V.fin [1, 0] rfl (congrArg (HP A) ?_) k9
      rfl
  refine V_aload_n (i := 0) dX8_dayGoes_0 rfl rfl ?_
  refine V_getf fl_X8_9 dX8_dayGoes_1 (hp20 hA) rfl ?_
  refine V_iconst (v := nI 0) dX8_dayGoes_4 (by decide) ?_
  refine V_dup2 dX8_dayGoes_5 rfl rfl ?_
  refine VL_21 dX8_dayGoes_6 hA rfl (by omega) ?_
  refine V_iconst (v := 1) dX8_dayGoes_7 (by decide) ?_
  refine V_iadd dX8_dayGoes_8 ?_
  refine VR_21 dX8_dayGoes_9 hA rfl (by omega) ?_
  refine V_iconst (v := nI 0) dX8_dayGoes_10 (by decide) ?_
  refine V_istore_n (i := 1) dX8_dayGoes_11 rfl (by decide) ?_
  exact V.fin [1, 0] rfl rfl (loopC nc 0 (by omega))

set_option maxHeartbeats 4000000 in
set_option maxRecDepth 100000 in
theorem t_X8_goes {D : va_G} {s0 : State} {l : Launch} {B : Nat} {A : AT} {σ : Sg} (hA : AOK B A) {P : Int32 × Int32} {u : Nat → Int32} {nh : Nat} (h1 : u 1 = nI nh) (hn8 : nh ≤ 8) {nc : Nat} (h2 : u 2 = nI nc) (hm : nc ≤ 4) {x : Int32} : Tri D s0 l yX8_goes cX8_goes 3 ((some .int)) 2 0 0 [.ref (A 20 0 0), .int x] (HP A (rs σ P u)) (fun r G' => r = some (.int (R_days u P nh nc x).2.1) ∧ G' = HP A (rs σ (R_days u P nh nc x).1 (R_days u P nh nc x).2.2)) noX := by
  refine Tri.ofV (own := RX8) (mn := "goes") (by decide +kernel) rfl rfl (Nat.le_of_ble_eq_true rfl) ?_
  have j16 : V D s0 RX8 "goes" cX8_goes 3 ((some .int)) [] l (rmd 2 0 0) (Zm D s0 0 0 (fun r G' => r = some (.int (R_days u P nh nc x).2.1) ∧ G' = HP A (rs σ (R_days u P nh nc x).1 (R_days u P nh nc x).2.2)) noX) 16 [(0, .ref (A 20 0 0)), (1, .int x)] [.int (bi (ob x 1 30)), .ref (A 20 0 0)] (HP A (rs σ P u)) 0 0 := by
    refine V_iconst (v := 1) dX8_goes_16 (by decide) ?_
    refine V_iconst (v := 0) dX8_goes_17 (by decide) ?_
    refine Cv0_3 (d := 2) cv_X8_92 dX8_goes_18 (t_X8_hinders hA) (hp20 hA) rfl rfl (Nat.le_of_ble_eq_true rfl) ⟨Nat.le_refl _, Nat.le_refl _⟩ (by decide) ⟨Nat.le_of_ble_eq_true rfl, Nat.le_of_ble_eq_true rfl⟩ ?_
    refine V_iconst (v := nI 0) dX8_goes_21 (by decide) ?_
    refine V_istore_n (i := 2) dX8_goes_22 rfl (by decide) ?_
    by_cases h24 : (RP_days P x).1 = 0
    · obtain ⟨m, hm1, hm9, rfl⟩ := ob_ex2 (a := 1) (b := 30) (by decide) (by decide) (hn_c (by decide) h24).1
      have hcm := nI_clamp (n := m) (by omega)
      have loop : ∀ n i : Nat, i + n = m → V D s0 RX8 "goes" cX8_goes 3 ((some .int)) [] l (rmd 2 0 0) (Zm D s0 0 0 (fun r G' => r = some (.int (R_days u P nh nc (nI m)).2.1) ∧ G' = HP A (rs σ (R_days u P nh nc (nI m)).1 (R_days u P nh nc (nI m)).2.2)) noX) 23 [(0, .ref (A 20 0 0)), (1, .int (nI m)), (2, .int (nI i))] [] (HP A (rs σ (RP_days P (nI m)) (R_dys u nh nc i))) 0 0 := by
        intro n
        induction n with
        | zero =>
          intro i hi9
          obtain rfl : m = i := by omega
          refine V_iload_n (i := 2) dX8_goes_23 rfl rfl ?_
          refine V_iload_n (i := 1) dX8_goes_24 rfl rfl ?_
          refine V_icmp_ge (tgt := 45) dX8_goes_25 (by decide) (fun _ => ?_) (fun h25 => by first | exact absurd (nI_le (Nat.le_refl _) (by omega)) h25 | exact absurd h25 (nI_le (Nat.le_refl _) (by omega)))
          refine V_aload_n (i := 0) dX8_goes_45 rfl rfl ?_
          refine V_iconst (v := nI 3) dX8_goes_46 (by decide) ?_
          refine Cv1_1 (d := 2) cv_X8_159 dX8_goes_47 (t_X8_sum hA (by rw [R_dys_lo (by decide) (by decide)]; exact h1) hn8 (by decide)) (hp20 hA) rfl rfl (Nat.le_of_ble_eq_true rfl) ⟨Nat.le_refl _, Nat.le_refl _⟩ (by decide) ⟨Nat.le_of_ble_eq_true rfl, Nat.le_of_ble_eq_true rfl⟩ ?_
          refine V_iret dX8_goes_50 rfl (Nat.le_of_ble_eq_true rfl) (Nat.le_of_ble_eq_true rfl) ?_
          refine rfin ?_
          rw [R_days, if_pos h24, hcm]
        | succ n ih =>
          intro i hi9
          have k9 := ih (i + 1) (by omega)
          have hi8 : i < m := by omega
          refine V_iload_n (i := 2) dX8_goes_23 rfl rfl ?_
          refine V_iload_n (i := 1) dX8_goes_24 rfl rfl ?_
          refine V_icmp_ge (tgt := 45) dX8_goes_25 (by decide) (fun h25 => by first | exact absurd h25 (nI_ge (by omega) (by omega)) | exact absurd (nI_ge (by omega) (by omega)) h25) (fun _ => ?_)
          refine V_aload_n (i := 0) dX8_goes_28 rfl rfl ?_
          refine V_getf fl_X8_41 dX8_goes_29 (hp20 hA) rfl ?_
          refine V_if_ne (tgt := 45) dX8_goes_32 (by decide) (fun h32 => by first | exact absurd h32 ((by rw [rs_15]; exact h24)) | exact absurd ((by rw [rs_15]; exact h24)) h32) (fun _ => ?_)
          refine V_aload_n (i := 0) dX8_goes_35 rfl rfl ?_
          refine Cv0_0 (d := 2) cv_X8_156 dX8_goes_36 (t_X8_dayGoes hA (by rw [R_dys_lo (by decide) (by decide)]; exact h1) hn8 (by rw [R_dys_lo (by decide) (by decide)]; exact h2) hm) (hp20 hA) rfl rfl (Nat.le_of_ble_eq_true rfl) ⟨Nat.le_refl _, Nat.le_refl _⟩ (by decide) ⟨Nat.le_of_ble_eq_true rfl, Nat.le_of_ble_eq_true rfl⟩ ?_
          refine V_iinc (i := 2) dX8_goes_39 rfl (inc1 _) (by decide) ?_
          refine V_goto (tgt := 23) dX8_goes_42 (by decide) ?_
          refine V.fin [1, 2, 0] rfl (congrArg (HP A) ?_) k9
          rfl
      exact V.fin [1, 2, 0] rfl rfl (loop m 0 (by omega))
    · refine V_iload_n (i := 2) dX8_goes_23 rfl rfl ?_
      refine V_iload_n (i := 1) dX8_goes_24 rfl rfl ?_
      refine V_icmp_ge (tgt := 45) dX8_goes_25 (by decide) (fun h25 => ?_) (fun h25 => ?_)
      · refine V_aload_n (i := 0) dX8_goes_45 rfl rfl ?_
        refine V_iconst (v := nI 3) dX8_goes_46 (by decide) ?_
        refine Cv1_1 (d := 2) cv_X8_159 dX8_goes_47 (t_X8_sum hA h1 hn8 (by decide)) (hp20 hA) rfl rfl (Nat.le_of_ble_eq_true rfl) ⟨Nat.le_refl _, Nat.le_refl _⟩ (by decide) ⟨Nat.le_of_ble_eq_true rfl, Nat.le_of_ble_eq_true rfl⟩ ?_
        refine V_iret dX8_goes_50 rfl (Nat.le_of_ble_eq_true rfl) (Nat.le_of_ble_eq_true rfl) ?_
        refine rfin ?_
        rw [R_days, if_neg h24]
      · refine V_aload_n (i := 0) dX8_goes_28 rfl rfl ?_
        refine V_getf fl_X8_41 dX8_goes_29 (hp20 hA) rfl ?_
        refine V_if_ne (tgt := 45) dX8_goes_32 (by decide) (fun _ => ?_) (fun h32 => by first | exact absurd ((by rw [rs_15]; exact h24)) h32 | exact absurd h32 ((by rw [rs_15]; exact h24)))
        refine V_aload_n (i := 0) dX8_goes_45 rfl rfl ?_
        refine V_iconst (v := nI 3) dX8_goes_46 (by decide) ?_
        refine Cv1_1 (d := 2) cv_X8_159 dX8_goes_47 (t_X8_sum hA h1 hn8 (by decide)) (hp20 hA) rfl rfl (Nat.le_of_ble_eq_true rfl) ⟨Nat.le_refl _, Nat.le_refl _⟩ (by decide) ⟨Nat.le_of_ble_eq_true rfl, Nat.le_of_ble_eq_true rfl⟩ ?_
        refine V_iret dX8_goes_50 rfl (Nat.le_of_ble_eq_true rfl) (Nat.le_of_ble_eq_true rfl) ?_
        refine rfin ?_
        rw [R_days, if_neg h24]
  refine V_aload_n (i := 0) dX8_goes_0 rfl rfl ?_
  refine V_iload_n (i := 1) dX8_goes_1 rfl rfl ?_
  refine V_iconst (v := 1) dX8_goes_2 (by decide) ?_
  refine V_bipush (v := 30) dX8_goes_3 (by decide) ?_
  refine Cs1_3 (d := 2) cs_X8_66 dX8_goes_5 (t_X8_isIn hA) (Nat.le_of_ble_eq_true rfl) ⟨Nat.le_refl _, Nat.le_refl _⟩ (by decide) ⟨Nat.le_of_ble_eq_true rfl, Nat.le_of_ble_eq_true rfl⟩ ?_
  refine V_if_ne (tgt := 15) dX8_goes_8 (by decide) (fun h8 => ?_) (fun h8 => ?_)
  · replace h8 := bi_1.mp h8
    refine V_iconst (v := 0) dX8_goes_15 (by decide) ?_
    refine V.fin [0, 1] rfl rfl (V.eqst ?_ j16)
    first
      | (simp [bi, *]; done)
      | (simp_all [bi]; done)
  · replace h8 := bi_0.mp h8
    refine V_iconst (v := 1) dX8_goes_11 (by decide) ?_
    refine V_goto (tgt := 16) dX8_goes_12 (by decide) ?_
    refine V.fin [0, 1] rfl rfl (V.eqst ?_ j16)
    first
      | (simp [bi, *]; done)
      | (simp_all [bi]; done)

set_option maxHeartbeats 4000000 in
set_option maxRecDepth 100000 in
theorem t_X8_does {D : va_G} {s0 : State} {l : Launch} {B : Nat} {A : AT} {σ : Sg} (hA : AOK B A) {P : Int32 × Int32} {u : Nat → Int32} {nh : Nat} (h1 : u 1 = nI nh) (hn8 : nh ≤ 8) {nc : Nat} (h2 : u 2 = nI nc) (hm : nc ≤ 4) {pl : Nat} (h3 : u 3 = nI pl) (hp : pl ≤ 8) (hst : ∀ c, c < nc → 0 < 5 + u (kx c 0)) (hdo : ∀ h, h < 8 → u (hx h 1) = 0 ∨ u (hx h 1) = 1 ∨ u (hx h 1) = 2) (hbo : ∀ h, h < 8 → u (hx h 7) = 0 ∨ u (hx h 7) = 1) {q : Nat} (hq : q < 8) {a b : Int32} : Tri D s0 l yX8_does cX8_does 4 ((some .int)) 4 0 0 [.ref (A 20 0 0), .int (nI q), .int a, .int b] (HP A (rs σ P u)) (fun r G' => r = some (.int (R_cmd u P nh nc pl q a b).2.1) ∧ G' = HP A (rs σ (R_cmd u P nh nc pl q a b).1 (R_cmd u P nh nc pl q a b).2.2)) noX := by
  refine Tri.ofV (own := RX8) (mn := "does") (by decide +kernel) rfl rfl (Nat.le_of_ble_eq_true rfl) ?_
  refine V_iload_n (i := 1) dX8_does_0 rfl rfl ?_
  rcases (by omega : q = 0 ∨ q = 1 ∨ q = 2 ∨ q = 3 ∨ q = 4 ∨ q = 5 ∨ q = 6 ∨ q = 7) with rfl | rfl | rfl | rfl | rfl | rfl | rfl | rfl
  · refine V_tableIn (tgt := 44) dX8_does_1 (by decide) (by decide) rfl (by decide) ?_
    refine V_aload_n (i := 0) dX8_does_44 rfl rfl ?_
    refine V_iload_n (i := 2) dX8_does_45 rfl rfl ?_
    refine Cv1_1 (d := 4) cv_X8_128 dX8_does_46 (t_X8_drives hA) (hp20 hA) rfl rfl (Nat.le_of_ble_eq_true rfl) ⟨Nat.le_refl _, Nat.le_refl _⟩ (by decide) ⟨Nat.le_of_ble_eq_true rfl, Nat.le_of_ble_eq_true rfl⟩ ?_
    refine V_iret dX8_does_49 rfl (Nat.le_of_ble_eq_true rfl) (Nat.le_of_ble_eq_true rfl) ?_
    exact ⟨rfl, rfl⟩
  · refine V_tableIn (tgt := 50) dX8_does_1 (by decide) (by decide) rfl (by decide) ?_
    refine V_aload_n (i := 0) dX8_does_50 rfl rfl ?_
    refine V_iload_n (i := 2) dX8_does_51 rfl rfl ?_
    refine Cv1_1 (d := 4) cv_X8_118 dX8_does_52 (t_X8_loads hA) (hp20 hA) rfl rfl (Nat.le_of_ble_eq_true rfl) ⟨Nat.le_refl _, Nat.le_refl _⟩ (by decide) ⟨Nat.le_of_ble_eq_true rfl, Nat.le_of_ble_eq_true rfl⟩ ?_
    refine V_iret dX8_does_55 rfl (Nat.le_of_ble_eq_true rfl) (Nat.le_of_ble_eq_true rfl) ?_
    exact ⟨rfl, rfl⟩
  · refine V_tableIn (tgt := 56) dX8_does_1 (by decide) (by decide) rfl (by decide) ?_
    refine V_aload_n (i := 0) dX8_does_56 rfl rfl ?_
    refine V_iload_n (i := 2) dX8_does_57 rfl rfl ?_
    refine V_iload_n (i := 3) dX8_does_58 rfl rfl ?_
    refine Cv1_2 (d := 4) cv_X8_144 dX8_does_59 (t_X8_carries hA h2 hm h3 hp hst hdo hbo) (hp20 hA) rfl rfl (Nat.le_of_ble_eq_true rfl) ⟨Nat.le_refl _, Nat.le_refl _⟩ (by decide) ⟨Nat.le_of_ble_eq_true rfl, Nat.le_of_ble_eq_true rfl⟩ ?_
    refine V_iret dX8_does_62 rfl (Nat.le_of_ble_eq_true rfl) (Nat.le_of_ble_eq_true rfl) ?_
    exact ⟨rfl, rfl⟩
  · refine V_tableIn (tgt := 63) dX8_does_1 (by decide) (by decide) rfl (by decide) ?_
    refine V_aload_n (i := 0) dX8_does_63 rfl rfl ?_
    refine Cv1_0 (d := 4) cv_X8_147 dX8_does_64 (t_X8_givesBone hA h3 hp) (hp20 hA) rfl rfl (Nat.le_of_ble_eq_true rfl) ⟨Nat.le_refl _, Nat.le_refl _⟩ (by decide) ⟨Nat.le_of_ble_eq_true rfl, Nat.le_of_ble_eq_true rfl⟩ ?_
    refine V_iret dX8_does_67 rfl (Nat.le_of_ble_eq_true rfl) (Nat.le_of_ble_eq_true rfl) ?_
    exact ⟨rfl, rfl⟩
  · refine V_tableIn (tgt := 68) dX8_does_1 (by decide) (by decide) rfl (by decide) ?_
    refine V_aload_n (i := 0) dX8_does_68 rfl rfl ?_
    refine V_iload_n (i := 2) dX8_does_69 rfl rfl ?_
    refine Cv1_1 (d := 4) cv_X8_150 dX8_does_70 (t_X8_mops hA h2 hm h3 hp) (hp20 hA) rfl rfl (Nat.le_of_ble_eq_true rfl) ⟨Nat.le_refl _, Nat.le_refl _⟩ (by decide) ⟨Nat.le_of_ble_eq_true rfl, Nat.le_of_ble_eq_true rfl⟩ ?_
    refine V_iret dX8_does_73 rfl (Nat.le_of_ble_eq_true rfl) (Nat.le_of_ble_eq_true rfl) ?_
    exact ⟨rfl, rfl⟩
  · refine V_tableIn (tgt := 74) dX8_does_1 (by decide) (by decide) rfl (by decide) ?_
    refine V_aload_n (i := 0) dX8_does_74 rfl rfl ?_
    refine V_iload_n (i := 2) dX8_does_75 rfl rfl ?_
    refine V_iload_n (i := 3) dX8_does_76 rfl rfl ?_
    refine Cv1_2 (d := 4) cv_X8_153 dX8_does_77 (t_X8_pays hA h1 hn8) (hp20 hA) rfl rfl (Nat.le_of_ble_eq_true rfl) ⟨Nat.le_refl _, Nat.le_refl _⟩ (by decide) ⟨Nat.le_of_ble_eq_true rfl, Nat.le_of_ble_eq_true rfl⟩ ?_
    refine V_iret dX8_does_80 rfl (Nat.le_of_ble_eq_true rfl) (Nat.le_of_ble_eq_true rfl) ?_
    exact ⟨rfl, rfl⟩
  · refine V_tableIn (tgt := 81) dX8_does_1 (by decide) (by decide) rfl (by decide) ?_
    refine V_aload_n (i := 0) dX8_does_81 rfl rfl ?_
    refine V_iload_n (i := 2) dX8_does_82 rfl rfl ?_
    refine Cv1_1 (d := 4) cv_X8_134 dX8_does_83 (t_X8_shods hA) (hp20 hA) rfl rfl (Nat.le_of_ble_eq_true rfl) ⟨Nat.le_refl _, Nat.le_refl _⟩ (by decide) ⟨Nat.le_of_ble_eq_true rfl, Nat.le_of_ble_eq_true rfl⟩ ?_
    refine V_iret dX8_does_86 rfl (Nat.le_of_ble_eq_true rfl) (Nat.le_of_ble_eq_true rfl) ?_
    exact ⟨rfl, rfl⟩
  · refine V_tableOut (tgt := 87) dX8_does_1 (by decide) (by decide) ?_
    refine V_aload_n (i := 0) dX8_does_87 rfl rfl ?_
    refine V_iload_n (i := 2) dX8_does_88 rfl rfl ?_
    refine Cv1_1 (d := 4) cv_X8_162 dX8_does_89 (t_X8_goes hA h1 hn8 h2 hm) (hp20 hA) rfl rfl (Nat.le_of_ble_eq_true rfl) ⟨Nat.le_refl _, Nat.le_refl _⟩ (by decide) ⟨Nat.le_of_ble_eq_true rfl, Nat.le_of_ble_eq_true rfl⟩ ?_
    refine V_iret dX8_does_92 rfl (Nat.le_of_ble_eq_true rfl) (Nat.le_of_ble_eq_true rfl) ?_
    exact ⟨rfl, rfl⟩

set_option maxHeartbeats 4000000 in
set_option maxRecDepth 100000 in
theorem t_X8_load {D : va_G} {s0 : State} {l : Launch} {B : Nat} {A : AT} {σ : Sg} (hA : AOK B A) {cn : Nat} (hcn : σ.1 20 0 5 = nI cn) (hc8 : cn ≤ 8) {a : Int32} : Tri D s0 l yX8_load cX8_load 2 ((some .int)) 3 0 0 [.ref (A 20 0 0), .int a] (HP A σ) (fun r G' => r = some (.int (finA (R_load (σ.1 21 0) (0, σ.1 20 0 16) a))) ∧ G' = HP A (finS σ (R_load (σ.1 21 0) (0, σ.1 20 0 16) a) cn 0 1)) noX := by
  refine Tri.ofV (own := RX8) (mn := "load") (by decide +kernel) rfl rfl (Nat.le_of_ble_eq_true rfl) ?_
  refine V_aload_n (i := 0) dX8_load_0 rfl rfl ?_
  refine Cv0_0 (d := 3) cv_X8_89 dX8_load_1 (t_X8_begins hA) (hp20 hA) rfl rfl (Nat.le_of_ble_eq_true rfl) ⟨Nat.le_refl _, Nat.le_refl _⟩ (by decide) ⟨Nat.le_of_ble_eq_true rfl, Nat.le_of_ble_eq_true rfl⟩ ?_
  refine V.eqG (congrArg (HP A) beg_rs) ?_
  refine V_aload_n (i := 0) dX8_load_4 rfl rfl ?_
  refine V_aload_n (i := 0) dX8_load_5 rfl rfl ?_
  refine V_iload_n (i := 1) dX8_load_6 rfl rfl ?_
  refine Cv1_1 (d := 3) cv_X8_118 dX8_load_7 (t_X8_loads hA) (hp20 hA) rfl rfl (Nat.le_of_ble_eq_true rfl) ⟨Nat.le_refl _, Nat.le_refl _⟩ (by decide) ⟨Nat.le_of_ble_eq_true rfl, Nat.le_of_ble_eq_true rfl⟩ ?_
  refine V_iconst (v := 0) dX8_load_10 (by decide) ?_
  refine V_iconst (v := 1) dX8_load_11 (by decide) ?_
  refine Cv1_3 (d := 3) cv_X8_100 dX8_load_12 (t_X8_ends hA (fcn hcn) hc8) (hp20 hA) rfl rfl (Nat.le_of_ble_eq_true rfl) ⟨Nat.le_refl _, Nat.le_refl _⟩ (by decide) ⟨Nat.le_of_ble_eq_true rfl, Nat.le_of_ble_eq_true rfl⟩ ?_
  refine V_iret dX8_load_15 rfl (Nat.le_of_ble_eq_true rfl) (Nat.le_of_ble_eq_true rfl) ?_
  exact ffin (R := (R_load (σ.1 21 0) (0, σ.1 20 0 16) a)) rfl

set_option maxHeartbeats 4000000 in
set_option maxRecDepth 100000 in
theorem t_X8_drive {D : va_G} {s0 : State} {l : Launch} {B : Nat} {A : AT} {σ : Sg} (hA : AOK B A) {cn : Nat} (hcn : σ.1 20 0 5 = nI cn) (hc8 : cn ≤ 8) {a : Int32} : Tri D s0 l yX8_drive cX8_drive 2 ((some .int)) 3 0 0 [.ref (A 20 0 0), .int a] (HP A σ) (fun r G' => r = some (.int (finA (R_drive (σ.1 21 0) (0, σ.1 20 0 16) a))) ∧ G' = HP A (finS σ (R_drive (σ.1 21 0) (0, σ.1 20 0 16) a) cn 0 1)) noX := by
  refine Tri.ofV (own := RX8) (mn := "drive") (by decide +kernel) rfl rfl (Nat.le_of_ble_eq_true rfl) ?_
  refine V_aload_n (i := 0) dX8_drive_0 rfl rfl ?_
  refine Cv0_0 (d := 3) cv_X8_89 dX8_drive_1 (t_X8_begins hA) (hp20 hA) rfl rfl (Nat.le_of_ble_eq_true rfl) ⟨Nat.le_refl _, Nat.le_refl _⟩ (by decide) ⟨Nat.le_of_ble_eq_true rfl, Nat.le_of_ble_eq_true rfl⟩ ?_
  refine V.eqG (congrArg (HP A) beg_rs) ?_
  refine V_aload_n (i := 0) dX8_drive_4 rfl rfl ?_
  refine V_aload_n (i := 0) dX8_drive_5 rfl rfl ?_
  refine V_iload_n (i := 1) dX8_drive_6 rfl rfl ?_
  refine Cv1_1 (d := 3) cv_X8_128 dX8_drive_7 (t_X8_drives hA) (hp20 hA) rfl rfl (Nat.le_of_ble_eq_true rfl) ⟨Nat.le_refl _, Nat.le_refl _⟩ (by decide) ⟨Nat.le_of_ble_eq_true rfl, Nat.le_of_ble_eq_true rfl⟩ ?_
  refine V_iconst (v := 0) dX8_drive_10 (by decide) ?_
  refine V_iconst (v := 1) dX8_drive_11 (by decide) ?_
  refine Cv1_3 (d := 3) cv_X8_100 dX8_drive_12 (t_X8_ends hA (fcn hcn) hc8) (hp20 hA) rfl rfl (Nat.le_of_ble_eq_true rfl) ⟨Nat.le_refl _, Nat.le_refl _⟩ (by decide) ⟨Nat.le_of_ble_eq_true rfl, Nat.le_of_ble_eq_true rfl⟩ ?_
  refine V_iret dX8_drive_15 rfl (Nat.le_of_ble_eq_true rfl) (Nat.le_of_ble_eq_true rfl) ?_
  exact ffin (R := (R_drive (σ.1 21 0) (0, σ.1 20 0 16) a)) rfl

set_option maxHeartbeats 4000000 in
set_option maxRecDepth 100000 in
theorem t_X8_carry {D : va_G} {s0 : State} {l : Launch} {B : Nat} {A : AT} {σ : Sg} (hA : AOK B A) {cn : Nat} (hcn : σ.1 20 0 5 = nI cn) (hc8 : cn ≤ 8) {nc : Nat} (h2 : (σ.1 21 0) 2 = nI nc) (hm : nc ≤ 4) {pl : Nat} (h3 : (σ.1 21 0) 3 = nI pl) (hp : pl ≤ 8) (hst : ∀ c, c < nc → 0 < 5 + (σ.1 21 0) (kx c 0)) (hdo : ∀ h, h < 8 → (σ.1 21 0) (hx h 1) = 0 ∨ (σ.1 21 0) (hx h 1) = 1 ∨ (σ.1 21 0) (hx h 1) = 2) (hbo : ∀ h, h < 8 → (σ.1 21 0) (hx h 7) = 0 ∨ (σ.1 21 0) (hx h 7) = 1) {a b : Int32} : Tri D s0 l yX8_carry cX8_carry 3 ((some .int)) 4 0 0 [.ref (A 20 0 0), .int a, .int b] (HP A σ) (fun r G' => r = some (.int (finA (R_carry (σ.1 21 0) (0, σ.1 20 0 16) nc pl a b))) ∧ G' = HP A (finS σ (R_carry (σ.1 21 0) (0, σ.1 20 0 16) nc pl a b) cn 0 1)) noX := by
  refine Tri.ofV (own := RX8) (mn := "carry") (by decide +kernel) rfl rfl (Nat.le_of_ble_eq_true rfl) ?_
  refine V_aload_n (i := 0) dX8_carry_0 rfl rfl ?_
  refine Cv0_0 (d := 4) cv_X8_89 dX8_carry_1 (t_X8_begins hA) (hp20 hA) rfl rfl (Nat.le_of_ble_eq_true rfl) ⟨Nat.le_refl _, Nat.le_refl _⟩ (by decide) ⟨Nat.le_of_ble_eq_true rfl, Nat.le_of_ble_eq_true rfl⟩ ?_
  refine V.eqG (congrArg (HP A) beg_rs) ?_
  refine V_aload_n (i := 0) dX8_carry_4 rfl rfl ?_
  refine V_aload_n (i := 0) dX8_carry_5 rfl rfl ?_
  refine V_iload_n (i := 1) dX8_carry_6 rfl rfl ?_
  refine V_iload_n (i := 2) dX8_carry_7 rfl rfl ?_
  refine Cv1_2 (d := 4) cv_X8_144 dX8_carry_8 (t_X8_carries hA h2 hm h3 hp hst hdo hbo) (hp20 hA) rfl rfl (Nat.le_of_ble_eq_true rfl) ⟨Nat.le_refl _, Nat.le_refl _⟩ (by decide) ⟨Nat.le_of_ble_eq_true rfl, Nat.le_of_ble_eq_true rfl⟩ ?_
  refine V_iconst (v := 0) dX8_carry_11 (by decide) ?_
  refine V_iconst (v := 1) dX8_carry_12 (by decide) ?_
  refine Cv1_3 (d := 4) cv_X8_100 dX8_carry_13 (t_X8_ends hA (fcn hcn) hc8) (hp20 hA) rfl rfl (Nat.le_of_ble_eq_true rfl) ⟨Nat.le_refl _, Nat.le_refl _⟩ (by decide) ⟨Nat.le_of_ble_eq_true rfl, Nat.le_of_ble_eq_true rfl⟩ ?_
  refine V_iret dX8_carry_16 rfl (Nat.le_of_ble_eq_true rfl) (Nat.le_of_ble_eq_true rfl) ?_
  exact ffin (R := (R_carry (σ.1 21 0) (0, σ.1 20 0 16) nc pl a b)) rfl

set_option maxHeartbeats 4000000 in
set_option maxRecDepth 100000 in
theorem t_X8_bone {D : va_G} {s0 : State} {l : Launch} {B : Nat} {A : AT} {σ : Sg} (hA : AOK B A) {cn : Nat} (hcn : σ.1 20 0 5 = nI cn) (hc8 : cn ≤ 8) {pl : Nat} (h3 : (σ.1 21 0) 3 = nI pl) (hp : pl ≤ 8) : Tri D s0 l yX8_bone cX8_bone 1 ((some .int)) 3 0 0 [.ref (A 20 0 0)] (HP A σ) (fun r G' => r = some (.int (finA (R_bone (σ.1 21 0) (0, σ.1 20 0 16) pl))) ∧ G' = HP A (finS σ (R_bone (σ.1 21 0) (0, σ.1 20 0 16) pl) cn 0 1)) noX := by
  refine Tri.ofV (own := RX8) (mn := "bone") (by decide +kernel) rfl rfl (Nat.le_of_ble_eq_true rfl) ?_
  refine V_aload_n (i := 0) dX8_bone_0 rfl rfl ?_
  refine Cv0_0 (d := 3) cv_X8_89 dX8_bone_1 (t_X8_begins hA) (hp20 hA) rfl rfl (Nat.le_of_ble_eq_true rfl) ⟨Nat.le_refl _, Nat.le_refl _⟩ (by decide) ⟨Nat.le_of_ble_eq_true rfl, Nat.le_of_ble_eq_true rfl⟩ ?_
  refine V.eqG (congrArg (HP A) beg_rs) ?_
  refine V_aload_n (i := 0) dX8_bone_4 rfl rfl ?_
  refine V_aload_n (i := 0) dX8_bone_5 rfl rfl ?_
  refine Cv1_0 (d := 3) cv_X8_147 dX8_bone_6 (t_X8_givesBone hA h3 hp) (hp20 hA) rfl rfl (Nat.le_of_ble_eq_true rfl) ⟨Nat.le_refl _, Nat.le_refl _⟩ (by decide) ⟨Nat.le_of_ble_eq_true rfl, Nat.le_of_ble_eq_true rfl⟩ ?_
  refine V_iconst (v := 0) dX8_bone_9 (by decide) ?_
  refine V_iconst (v := 1) dX8_bone_10 (by decide) ?_
  refine Cv1_3 (d := 3) cv_X8_100 dX8_bone_11 (t_X8_ends hA (fcn hcn) hc8) (hp20 hA) rfl rfl (Nat.le_of_ble_eq_true rfl) ⟨Nat.le_refl _, Nat.le_refl _⟩ (by decide) ⟨Nat.le_of_ble_eq_true rfl, Nat.le_of_ble_eq_true rfl⟩ ?_
  refine V_iret dX8_bone_14 rfl (Nat.le_of_ble_eq_true rfl) (Nat.le_of_ble_eq_true rfl) ?_
  exact ffin (R := (R_bone (σ.1 21 0) (0, σ.1 20 0 16) pl)) rfl

set_option maxHeartbeats 4000000 in
set_option maxRecDepth 100000 in
theorem t_X8_mop {D : va_G} {s0 : State} {l : Launch} {B : Nat} {A : AT} {σ : Sg} (hA : AOK B A) {cn : Nat} (hcn : σ.1 20 0 5 = nI cn) (hc8 : cn ≤ 8) {nc : Nat} (h2 : (σ.1 21 0) 2 = nI nc) (hm : nc ≤ 4) {pl : Nat} (h3 : (σ.1 21 0) 3 = nI pl) (hp : pl ≤ 8) {a : Int32} : Tri D s0 l yX8_mop cX8_mop 2 ((some .int)) 3 0 0 [.ref (A 20 0 0), .int a] (HP A σ) (fun r G' => r = some (.int (finA (R_mop (σ.1 21 0) (0, σ.1 20 0 16) nc pl a))) ∧ G' = HP A (finS σ (R_mop (σ.1 21 0) (0, σ.1 20 0 16) nc pl a) cn 0 1)) noX := by
  refine Tri.ofV (own := RX8) (mn := "mop") (by decide +kernel) rfl rfl (Nat.le_of_ble_eq_true rfl) ?_
  refine V_aload_n (i := 0) dX8_mop_0 rfl rfl ?_
  refine Cv0_0 (d := 3) cv_X8_89 dX8_mop_1 (t_X8_begins hA) (hp20 hA) rfl rfl (Nat.le_of_ble_eq_true rfl) ⟨Nat.le_refl _, Nat.le_refl _⟩ (by decide) ⟨Nat.le_of_ble_eq_true rfl, Nat.le_of_ble_eq_true rfl⟩ ?_
  refine V.eqG (congrArg (HP A) beg_rs) ?_
  refine V_aload_n (i := 0) dX8_mop_4 rfl rfl ?_
  refine V_aload_n (i := 0) dX8_mop_5 rfl rfl ?_
  refine V_iload_n (i := 1) dX8_mop_6 rfl rfl ?_
  refine Cv1_1 (d := 3) cv_X8_150 dX8_mop_7 (t_X8_mops hA h2 hm h3 hp) (hp20 hA) rfl rfl (Nat.le_of_ble_eq_true rfl) ⟨Nat.le_refl _, Nat.le_refl _⟩ (by decide) ⟨Nat.le_of_ble_eq_true rfl, Nat.le_of_ble_eq_true rfl⟩ ?_
  refine V_iconst (v := 0) dX8_mop_10 (by decide) ?_
  refine V_iconst (v := 1) dX8_mop_11 (by decide) ?_
  refine Cv1_3 (d := 3) cv_X8_100 dX8_mop_12 (t_X8_ends hA (fcn hcn) hc8) (hp20 hA) rfl rfl (Nat.le_of_ble_eq_true rfl) ⟨Nat.le_refl _, Nat.le_refl _⟩ (by decide) ⟨Nat.le_of_ble_eq_true rfl, Nat.le_of_ble_eq_true rfl⟩ ?_
  refine V_iret dX8_mop_15 rfl (Nat.le_of_ble_eq_true rfl) (Nat.le_of_ble_eq_true rfl) ?_
  exact ffin (R := (R_mop (σ.1 21 0) (0, σ.1 20 0 16) nc pl a)) rfl

set_option maxHeartbeats 4000000 in
set_option maxRecDepth 100000 in
theorem t_X8_pay {D : va_G} {s0 : State} {l : Launch} {B : Nat} {A : AT} {σ : Sg} (hA : AOK B A) {cn : Nat} (hcn : σ.1 20 0 5 = nI cn) (hc8 : cn ≤ 8) {nh : Nat} (h1 : (σ.1 21 0) 1 = nI nh) (hn8 : nh ≤ 8) {a b : Int32} : Tri D s0 l yX8_pay cX8_pay 3 ((some .int)) 3 0 0 [.ref (A 20 0 0), .int a, .int b] (HP A σ) (fun r G' => r = some (.int (finA (R_pay (σ.1 21 0) (0, σ.1 20 0 16) nh a b))) ∧ G' = HP A (finS σ (R_pay (σ.1 21 0) (0, σ.1 20 0 16) nh a b) cn 0 1)) noX := by
  refine Tri.ofV (own := RX8) (mn := "pay") (by decide +kernel) rfl rfl (Nat.le_of_ble_eq_true rfl) ?_
  refine V_aload_n (i := 0) dX8_pay_0 rfl rfl ?_
  refine Cv0_0 (d := 3) cv_X8_89 dX8_pay_1 (t_X8_begins hA) (hp20 hA) rfl rfl (Nat.le_of_ble_eq_true rfl) ⟨Nat.le_refl _, Nat.le_refl _⟩ (by decide) ⟨Nat.le_of_ble_eq_true rfl, Nat.le_of_ble_eq_true rfl⟩ ?_
  refine V.eqG (congrArg (HP A) beg_rs) ?_
  refine V_aload_n (i := 0) dX8_pay_4 rfl rfl ?_
  refine V_aload_n (i := 0) dX8_pay_5 rfl rfl ?_
  refine V_iload_n (i := 1) dX8_pay_6 rfl rfl ?_
  refine V_iload_n (i := 2) dX8_pay_7 rfl rfl ?_
  refine Cv1_2 (d := 3) cv_X8_153 dX8_pay_8 (t_X8_pays hA h1 hn8) (hp20 hA) rfl rfl (Nat.le_of_ble_eq_true rfl) ⟨Nat.le_refl _, Nat.le_refl _⟩ (by decide) ⟨Nat.le_of_ble_eq_true rfl, Nat.le_of_ble_eq_true rfl⟩ ?_
  refine V_iconst (v := 0) dX8_pay_11 (by decide) ?_
  refine V_iconst (v := 1) dX8_pay_12 (by decide) ?_
  refine Cv1_3 (d := 3) cv_X8_100 dX8_pay_13 (t_X8_ends hA (fcn hcn) hc8) (hp20 hA) rfl rfl (Nat.le_of_ble_eq_true rfl) ⟨Nat.le_refl _, Nat.le_refl _⟩ (by decide) ⟨Nat.le_of_ble_eq_true rfl, Nat.le_of_ble_eq_true rfl⟩ ?_
  refine V_iret dX8_pay_16 rfl (Nat.le_of_ble_eq_true rfl) (Nat.le_of_ble_eq_true rfl) ?_
  exact ffin (R := (R_pay (σ.1 21 0) (0, σ.1 20 0 16) nh a b)) rfl

set_option maxHeartbeats 4000000 in
set_option maxRecDepth 100000 in
theorem t_X8_shoe {D : va_G} {s0 : State} {l : Launch} {B : Nat} {A : AT} {σ : Sg} (hA : AOK B A) {cn : Nat} (hcn : σ.1 20 0 5 = nI cn) (hc8 : cn ≤ 8) {a : Int32} : Tri D s0 l yX8_shoe cX8_shoe 2 ((some .int)) 3 0 0 [.ref (A 20 0 0), .int a] (HP A σ) (fun r G' => r = some (.int (finA (R_shoe (σ.1 21 0) (0, σ.1 20 0 16) a))) ∧ G' = HP A (finS σ (R_shoe (σ.1 21 0) (0, σ.1 20 0 16) a) cn 0 1)) noX := by
  refine Tri.ofV (own := RX8) (mn := "shoe") (by decide +kernel) rfl rfl (Nat.le_of_ble_eq_true rfl) ?_
  refine V_aload_n (i := 0) dX8_shoe_0 rfl rfl ?_
  refine Cv0_0 (d := 3) cv_X8_89 dX8_shoe_1 (t_X8_begins hA) (hp20 hA) rfl rfl (Nat.le_of_ble_eq_true rfl) ⟨Nat.le_refl _, Nat.le_refl _⟩ (by decide) ⟨Nat.le_of_ble_eq_true rfl, Nat.le_of_ble_eq_true rfl⟩ ?_
  refine V.eqG (congrArg (HP A) beg_rs) ?_
  refine V_aload_n (i := 0) dX8_shoe_4 rfl rfl ?_
  refine V_aload_n (i := 0) dX8_shoe_5 rfl rfl ?_
  refine V_iload_n (i := 1) dX8_shoe_6 rfl rfl ?_
  refine Cv1_1 (d := 3) cv_X8_134 dX8_shoe_7 (t_X8_shods hA) (hp20 hA) rfl rfl (Nat.le_of_ble_eq_true rfl) ⟨Nat.le_refl _, Nat.le_refl _⟩ (by decide) ⟨Nat.le_of_ble_eq_true rfl, Nat.le_of_ble_eq_true rfl⟩ ?_
  refine V_iconst (v := 0) dX8_shoe_10 (by decide) ?_
  refine V_iconst (v := 1) dX8_shoe_11 (by decide) ?_
  refine Cv1_3 (d := 3) cv_X8_100 dX8_shoe_12 (t_X8_ends hA (fcn hcn) hc8) (hp20 hA) rfl rfl (Nat.le_of_ble_eq_true rfl) ⟨Nat.le_refl _, Nat.le_refl _⟩ (by decide) ⟨Nat.le_of_ble_eq_true rfl, Nat.le_of_ble_eq_true rfl⟩ ?_
  refine V_iret dX8_shoe_15 rfl (Nat.le_of_ble_eq_true rfl) (Nat.le_of_ble_eq_true rfl) ?_
  exact ffin (R := (R_shoe (σ.1 21 0) (0, σ.1 20 0 16) a)) rfl

set_option maxHeartbeats 4000000 in
set_option maxRecDepth 100000 in
theorem t_X8_days {D : va_G} {s0 : State} {l : Launch} {B : Nat} {A : AT} {σ : Sg} (hA : AOK B A) {cn : Nat} (hcn : σ.1 20 0 5 = nI cn) (hc8 : cn ≤ 8) {nh : Nat} (h1 : (σ.1 21 0) 1 = nI nh) (hn8 : nh ≤ 8) {nc : Nat} (h2 : (σ.1 21 0) 2 = nI nc) (hm : nc ≤ 4) {a : Int32} : Tri D s0 l yX8_days cX8_days 2 ((some .int)) 3 0 0 [.ref (A 20 0 0), .int a] (HP A σ) (fun r G' => r = some (.int (finA (R_days (σ.1 21 0) (0, σ.1 20 0 16) nh nc a))) ∧ G' = HP A (finS σ (R_days (σ.1 21 0) (0, σ.1 20 0 16) nh nc a) cn 0 1)) noX := by
  refine Tri.ofV (own := RX8) (mn := "days") (by decide +kernel) rfl rfl (Nat.le_of_ble_eq_true rfl) ?_
  refine V_aload_n (i := 0) dX8_days_0 rfl rfl ?_
  refine Cv0_0 (d := 3) cv_X8_89 dX8_days_1 (t_X8_begins hA) (hp20 hA) rfl rfl (Nat.le_of_ble_eq_true rfl) ⟨Nat.le_refl _, Nat.le_refl _⟩ (by decide) ⟨Nat.le_of_ble_eq_true rfl, Nat.le_of_ble_eq_true rfl⟩ ?_
  refine V.eqG (congrArg (HP A) beg_rs) ?_
  refine V_aload_n (i := 0) dX8_days_4 rfl rfl ?_
  refine V_aload_n (i := 0) dX8_days_5 rfl rfl ?_
  refine V_iload_n (i := 1) dX8_days_6 rfl rfl ?_
  refine Cv1_1 (d := 3) cv_X8_162 dX8_days_7 (t_X8_goes hA h1 hn8 h2 hm) (hp20 hA) rfl rfl (Nat.le_of_ble_eq_true rfl) ⟨Nat.le_refl _, Nat.le_refl _⟩ (by decide) ⟨Nat.le_of_ble_eq_true rfl, Nat.le_of_ble_eq_true rfl⟩ ?_
  refine V_iconst (v := 0) dX8_days_10 (by decide) ?_
  refine V_iconst (v := 1) dX8_days_11 (by decide) ?_
  refine Cv1_3 (d := 3) cv_X8_100 dX8_days_12 (t_X8_ends hA (fcn hcn) hc8) (hp20 hA) rfl rfl (Nat.le_of_ble_eq_true rfl) ⟨Nat.le_refl _, Nat.le_refl _⟩ (by decide) ⟨Nat.le_of_ble_eq_true rfl, Nat.le_of_ble_eq_true rfl⟩ ?_
  refine V_iret dX8_days_15 rfl (Nat.le_of_ble_eq_true rfl) (Nat.le_of_ble_eq_true rfl) ?_
  exact ffin (R := (R_days (σ.1 21 0) (0, σ.1 20 0 16) nh nc a)) rfl

set_option maxHeartbeats 4000000 in
set_option maxRecDepth 100000 in
theorem t_X8_bones {D : va_G} {s0 : State} {l : Launch} {B : Nat} {A : AT} {σ : Sg} (hA : AOK B A) {cn : Nat} (hcn : σ.1 20 0 5 = nI cn) (hc8 : cn ≤ 8) {a : Int32} : Tri D s0 l yX8_bones cX8_bones 2 ((some .int)) 3 0 0 [.ref (A 20 0 0), .int a] (HP A σ) (fun r G' => r = some (.int (finA (R_bones (σ.1 21 0) (0, σ.1 20 0 16) a))) ∧ G' = HP A (finS σ (R_bones (σ.1 21 0) (0, σ.1 20 0 16) a) cn 0 1)) noX := by
  refine Tri.ofV (own := RX8) (mn := "bones") (by decide +kernel) rfl rfl (Nat.le_of_ble_eq_true rfl) ?_
  have j42 : V D s0 RX8 "bones" cX8_bones 2 ((some .int)) [] l (rmd 3 0 0) (Zm D s0 0 0 (fun r G' => r = some (.int (finA (R_bones (σ.1 21 0) (0, σ.1 20 0 16) a))) ∧ G' = HP A (finS σ (R_bones (σ.1 21 0) (0, σ.1 20 0 16) a) cn 0 1)) noX) 42 [(0, .ref (A 20 0 0)), (1, .int a)] [.int (bi (decide ((σ.1 21 0) 6 < a))), .ref (A 20 0 0)] (HP A (rs (beg σ) (hn (0, σ.1 20 0 16) (ob a 1 9) 1 0) (σ.1 21 0))) 0 0 := by
    refine V_bipush (v := 16) dX8_bones_42 (by decide) ?_
    refine V_iload_n (i := 1) dX8_bones_44 rfl rfl ?_
    refine V_aload_n (i := 0) dX8_bones_45 rfl rfl ?_
    refine V_getf fl_X8_9 dX8_bones_46 (hp20 hA) rfl ?_
    refine V_bipush (v := nI 6) dX8_bones_49 (by decide) ?_
    refine VL_21 dX8_bones_51 hA rfl (by omega) ?_
    refine V_isub dX8_bones_52 ?_
    refine Cv0_3 (d := 3) cv_X8_92 dX8_bones_53 (t_X8_hinders hA) (hp20 hA) rfl rfl (Nat.le_of_ble_eq_true rfl) ⟨Nat.le_refl _, Nat.le_refl _⟩ (by decide) ⟨Nat.le_of_ble_eq_true rfl, Nat.le_of_ble_eq_true rfl⟩ ?_
    refine V_aload_n (i := 0) dX8_bones_56 rfl rfl ?_
    refine V_getf fl_X8_9 dX8_bones_57 (hp20 hA) rfl ?_
    refine V_bipush (v := nI 6) dX8_bones_60 (by decide) ?_
    refine V_dup2 dX8_bones_62 rfl rfl ?_
    refine VL_21 dX8_bones_63 hA rfl (by omega) ?_
    refine V_iload_n (i := 1) dX8_bones_64 rfl rfl ?_
    refine V_isub dX8_bones_65 ?_
    refine VR_21 dX8_bones_66 hA rfl (by omega) ?_
    refine V_aload_n (i := 0) dX8_bones_67 rfl rfl ?_
    refine V_getf fl_X8_9 dX8_bones_68 (hp20 hA) rfl ?_
    refine V_bipush (v := nI 8) dX8_bones_71 (by decide) ?_
    refine V_dup2 dX8_bones_73 rfl rfl ?_
    refine VL_21 dX8_bones_74 hA rfl (by omega) ?_
    refine V_iload_n (i := 1) dX8_bones_75 rfl rfl ?_
    refine V_iadd dX8_bones_76 ?_
    refine VR_21 dX8_bones_77 hA rfl (by omega) ?_
    refine V_aload_n (i := 0) dX8_bones_78 rfl rfl ?_
    refine V_aload_n (i := 0) dX8_bones_79 rfl rfl ?_
    refine V_getf fl_X8_9 dX8_bones_80 (hp20 hA) rfl ?_
    refine V_bipush (v := nI 8) dX8_bones_83 (by decide) ?_
    refine VL_21 dX8_bones_85 hA rfl (by omega) ?_
    refine V_iconst (v := 0) dX8_bones_86 (by decide) ?_
    refine V_iconst (v := 1) dX8_bones_87 (by decide) ?_
    refine Cv1_3 (d := 3) cv_X8_100 dX8_bones_88 (t_X8_ends hA (fcn hcn) hc8) (hp20 hA) rfl rfl (Nat.le_of_ble_eq_true rfl) ⟨Nat.le_refl _, Nat.le_refl _⟩ (by decide) ⟨Nat.le_of_ble_eq_true rfl, Nat.le_of_ble_eq_true rfl⟩ ?_
    refine V_iret dX8_bones_91 rfl (Nat.le_of_ble_eq_true rfl) (Nat.le_of_ble_eq_true rfl) ?_
    exact ffin (R := (R_bones (σ.1 21 0) (0, σ.1 20 0 16) a)) rfl
  have j20 : V D s0 RX8 "bones" cX8_bones 2 ((some .int)) [] l (rmd 3 0 0) (Zm D s0 0 0 (fun r G' => r = some (.int (finA (R_bones (σ.1 21 0) (0, σ.1 20 0 16) a))) ∧ G' = HP A (finS σ (R_bones (σ.1 21 0) (0, σ.1 20 0 16) a) cn 0 1)) noX) 20 [(0, .ref (A 20 0 0)), (1, .int a)] [.int (bi (ob a 1 9)), .ref (A 20 0 0)] (HP A (rs (beg σ) (0, σ.1 20 0 16) (σ.1 21 0))) 0 0 := by
    refine V_iconst (v := 1) dX8_bones_20 (by decide) ?_
    refine V_iconst (v := 0) dX8_bones_21 (by decide) ?_
    refine Cv0_3 (d := 3) cv_X8_92 dX8_bones_22 (t_X8_hinders hA) (hp20 hA) rfl rfl (Nat.le_of_ble_eq_true rfl) ⟨Nat.le_refl _, Nat.le_refl _⟩ (by decide) ⟨Nat.le_of_ble_eq_true rfl, Nat.le_of_ble_eq_true rfl⟩ ?_
    refine V_aload_n (i := 0) dX8_bones_25 rfl rfl ?_
    refine V_aload_n (i := 0) dX8_bones_26 rfl rfl ?_
    refine V_getf fl_X8_9 dX8_bones_27 (hp20 hA) rfl ?_
    refine V_bipush (v := nI 6) dX8_bones_30 (by decide) ?_
    refine VL_21 dX8_bones_32 hA rfl (by omega) ?_
    refine V_iload_n (i := 1) dX8_bones_33 rfl rfl ?_
    refine V_icmp_ge (tgt := 41) dX8_bones_34 (by decide) (fun h34 => ?_) (fun h34 => ?_)
    · replace h34 := Int32.not_lt.mpr h34
      refine V_iconst (v := 0) dX8_bones_41 (by decide) ?_
      refine V.fin [0, 1] rfl rfl (V.eqst ?_ j42)
      first
        | (simp [bi, *]; done)
        | (simp_all [bi]; done)
    · replace h34 := Int32.not_le.mp h34
      refine V_iconst (v := 1) dX8_bones_37 (by decide) ?_
      refine V_goto (tgt := 42) dX8_bones_38 (by decide) ?_
      refine V.fin [0, 1] rfl rfl (V.eqst ?_ j42)
      first
        | (simp [bi, *]; done)
        | (simp_all [bi]; done)
  refine V_aload_n (i := 0) dX8_bones_0 rfl rfl ?_
  refine Cv0_0 (d := 3) cv_X8_89 dX8_bones_1 (t_X8_begins hA) (hp20 hA) rfl rfl (Nat.le_of_ble_eq_true rfl) ⟨Nat.le_refl _, Nat.le_refl _⟩ (by decide) ⟨Nat.le_of_ble_eq_true rfl, Nat.le_of_ble_eq_true rfl⟩ ?_
  refine V.eqG (congrArg (HP A) beg_rs) ?_
  refine V_aload_n (i := 0) dX8_bones_4 rfl rfl ?_
  refine V_iload_n (i := 1) dX8_bones_5 rfl rfl ?_
  refine V_iconst (v := 1) dX8_bones_6 (by decide) ?_
  refine V_bipush (v := 9) dX8_bones_7 (by decide) ?_
  refine Cs1_3 (d := 3) cs_X8_66 dX8_bones_9 (t_X8_isIn hA) (Nat.le_of_ble_eq_true rfl) ⟨Nat.le_refl _, Nat.le_refl _⟩ (by decide) ⟨Nat.le_of_ble_eq_true rfl, Nat.le_of_ble_eq_true rfl⟩ ?_
  refine V_if_ne (tgt := 19) dX8_bones_12 (by decide) (fun h12 => ?_) (fun h12 => ?_)
  · replace h12 := bi_1.mp h12
    refine V_iconst (v := 0) dX8_bones_19 (by decide) ?_
    refine V.fin [0, 1] rfl rfl (V.eqst ?_ j20)
    first
      | (simp [bi, *]; done)
      | (simp_all [bi]; done)
  · replace h12 := bi_0.mp h12
    refine V_iconst (v := 1) dX8_bones_15 (by decide) ?_
    refine V_goto (tgt := 20) dX8_bones_16 (by decide) ?_
    refine V.fin [0, 1] rfl rfl (V.eqst ?_ j20)
    first
      | (simp [bi, *]; done)
      | (simp_all [bi]; done)

set_option maxHeartbeats 4000000 in
set_option maxRecDepth 100000 in
theorem t_X8_house {D : va_G} {s0 : State} {l : Launch} {B : Nat} {A : AT} {σ : Sg} (hA : AOK B A) {cn : Nat} (hcn : σ.1 20 0 5 = nI cn) (hc8 : cn ≤ 8) {nh : Nat} (h1 : (σ.1 21 0) 1 = nI nh) (hn8 : nh ≤ 8) {a b : Int32} : Tri D s0 l yX8_house cX8_house 4 ((some .int)) 3 0 0 [.ref (A 20 0 0), .int a, .int b] (HP A σ) (fun r G' => r = some (.int (finA (R_house (σ.1 21 0) (0, σ.1 20 0 16) nh a b))) ∧ G' = HP A (finS σ (R_house (σ.1 21 0) (0, σ.1 20 0 16) nh a b) cn 0 1)) noX := by
  refine Tri.ofV (own := RX8) (mn := "house") (by decide +kernel) rfl rfl (Nat.le_of_ble_eq_true rfl) ?_
  have j53 : V D s0 RX8 "house" cX8_house 4 ((some .int)) [] l (rmd 3 0 0) (Zm D s0 0 0 (fun r G' => r = some (.int (finA (R_house (σ.1 21 0) (0, σ.1 20 0 16) nh a b))) ∧ G' = HP A (finS σ (R_house (σ.1 21 0) (0, σ.1 20 0 16) nh a b) cn 0 1)) noX) 53 [(0, .ref (A 20 0 0)), (1, .int a), (2, .int b), (3, .int ((σ.1 21 0) 1))] [.int (bi (decide ((σ.1 21 0) 1 = 8))), .ref (A 20 0 0)] (HP A (rs (beg σ) (hn (0, σ.1 20 0 16) (ob a 0 9 || ob b 0 2) 1 0) (σ.1 21 0))) 0 0 := by
    refine V_iconst (v := 2) dX8_house_53 (by decide) ?_
    refine V_bipush (v := 8) dX8_house_54 (by decide) ?_
    refine Cv0_3 (d := 3) cv_X8_92 dX8_house_56 (t_X8_hinders hA) (hp20 hA) rfl rfl (Nat.le_of_ble_eq_true rfl) ⟨Nat.le_refl _, Nat.le_refl _⟩ (by decide) ⟨Nat.le_of_ble_eq_true rfl, Nat.le_of_ble_eq_true rfl⟩ ?_
    refine V_aload_n (i := 0) dX8_house_59 rfl rfl ?_
    refine V_getf fl_X8_41 dX8_house_60 (hp20 hA) rfl ?_
    refine V_if_ne (tgt := 90) dX8_house_63 (by decide) (fun h63 => ?_) (fun h63 => ?_)
    · rw [rs_15] at h63
      refine V_aload_n (i := 0) dX8_house_90 rfl rfl ?_
      refine V_iload_n (i := 3) dX8_house_91 rfl rfl ?_
      refine V_iconst (v := 0) dX8_house_92 (by decide) ?_
      refine V_iconst (v := 1) dX8_house_93 (by decide) ?_
      refine Cv1_3 (d := 3) cv_X8_100 dX8_house_94 (t_X8_ends hA (fcn hcn) hc8) (hp20 hA) rfl rfl (Nat.le_of_ble_eq_true rfl) ⟨Nat.le_refl _, Nat.le_refl _⟩ (by decide) ⟨Nat.le_of_ble_eq_true rfl, Nat.le_of_ble_eq_true rfl⟩ ?_
      refine V_iret dX8_house_97 rfl (Nat.le_of_ble_eq_true rfl) (Nat.le_of_ble_eq_true rfl) ?_
      refine ffin (R := (R_house (σ.1 21 0) (0, σ.1 20 0 16) nh a b)) ?_
      first | (rw [R_house, if_pos h63]; rfl) | (rw [R_house, if_neg h63])
    · rw [rs_15] at h63
      have hne := (PX2 h63 (by decide) (by decide)).2.1
      rw [decide_eq_false_iff_not, h1] at hne
      have hlt : nh < 8 := by
        have q : ¬ nh = 8 := fun z => hne (by rw [z]; rfl)
        omega
      refine V_aload_n (i := 0) dX8_house_66 rfl rfl ?_
      refine V_iload_n (i := 3) dX8_house_67 rfl rfl ?_
      refine V_iconst (v := nI 0) dX8_house_68 (by decide) ?_
      refine V_iload_n (i := 1) dX8_house_69 rfl rfl ?_
      refine Cv0_3 (d := 3) cv_X8_96 dX8_house_70 (t_X8_becomese hA h1 (by omega) (by decide)) (hp20 hA) rfl rfl (Nat.le_of_ble_eq_true rfl) ⟨Nat.le_refl _, Nat.le_refl _⟩ (by decide) ⟨Nat.le_of_ble_eq_true rfl, Nat.le_of_ble_eq_true rfl⟩ ?_
      refine V_aload_n (i := 0) dX8_house_73 rfl rfl ?_
      refine V_iload_n (i := 3) dX8_house_74 rfl rfl ?_
      refine V_iconst (v := nI 1) dX8_house_75 (by decide) ?_
      refine V_iload_n (i := 2) dX8_house_76 rfl rfl ?_
      refine Cv0_3 (d := 3) cv_X8_96 dX8_house_77 (t_X8_becomese hA h1 (by omega) (by decide)) (hp20 hA) rfl rfl (Nat.le_of_ble_eq_true rfl) ⟨Nat.le_refl _, Nat.le_refl _⟩ (by decide) ⟨Nat.le_of_ble_eq_true rfl, Nat.le_of_ble_eq_true rfl⟩ ?_
      refine V_aload_n (i := 0) dX8_house_80 rfl rfl ?_
      refine V_getf fl_X8_9 dX8_house_81 (hp20 hA) rfl ?_
      refine V_iconst (v := nI 1) dX8_house_84 (by decide) ?_
      refine V_dup2 dX8_house_85 rfl rfl ?_
      refine VL_21 dX8_house_86 hA rfl (by omega) ?_
      refine V_iconst (v := 1) dX8_house_87 (by decide) ?_
      refine V_iadd dX8_house_88 ?_
      refine VR_21 dX8_house_89 hA rfl (by omega) ?_
      refine V_aload_n (i := 0) dX8_house_90 rfl rfl ?_
      refine V_iload_n (i := 3) dX8_house_91 rfl rfl ?_
      refine V_iconst (v := 0) dX8_house_92 (by decide) ?_
      refine V_iconst (v := 1) dX8_house_93 (by decide) ?_
      refine Cv1_3 (d := 3) cv_X8_100 dX8_house_94 (t_X8_ends hA (fcn hcn) hc8) (hp20 hA) rfl rfl (Nat.le_of_ble_eq_true rfl) ⟨Nat.le_refl _, Nat.le_refl _⟩ (by decide) ⟨Nat.le_of_ble_eq_true rfl, Nat.le_of_ble_eq_true rfl⟩ ?_
      refine V_iret dX8_house_97 rfl (Nat.le_of_ble_eq_true rfl) (Nat.le_of_ble_eq_true rfl) ?_
      refine ffin (R := (R_house (σ.1 21 0) (0, σ.1 20 0 16) nh a b)) ?_
      first | (rw [R_house, if_pos h63]; rfl) | (rw [R_house, if_neg h63])
  have j36 : V D s0 RX8 "house" cX8_house 4 ((some .int)) [] l (rmd 3 0 0) (Zm D s0 0 0 (fun r G' => r = some (.int (finA (R_house (σ.1 21 0) (0, σ.1 20 0 16) nh a b))) ∧ G' = HP A (finS σ (R_house (σ.1 21 0) (0, σ.1 20 0 16) nh a b) cn 0 1)) noX) 36 [(0, .ref (A 20 0 0)), (1, .int a), (2, .int b), (3, .int ((σ.1 21 0) 1))] [.int (bi (ob a 0 9 || ob b 0 2)), .ref (A 20 0 0)] (HP A (rs (beg σ) (0, σ.1 20 0 16) (σ.1 21 0))) 0 0 := by
    refine V_iconst (v := 1) dX8_house_36 (by decide) ?_
    refine V_iconst (v := 0) dX8_house_37 (by decide) ?_
    refine Cv0_3 (d := 3) cv_X8_92 dX8_house_38 (t_X8_hinders hA) (hp20 hA) rfl rfl (Nat.le_of_ble_eq_true rfl) ⟨Nat.le_refl _, Nat.le_refl _⟩ (by decide) ⟨Nat.le_of_ble_eq_true rfl, Nat.le_of_ble_eq_true rfl⟩ ?_
    refine V_aload_n (i := 0) dX8_house_41 rfl rfl ?_
    refine V_iload_n (i := 3) dX8_house_42 rfl rfl ?_
    refine V_bipush (v := 8) dX8_house_43 (by decide) ?_
    refine V_icmp_ne (tgt := 52) dX8_house_45 (by decide) (fun h45 => ?_) (fun h45 => ?_)
    · refine V_iconst (v := 0) dX8_house_52 (by decide) ?_
      refine V.fin [0, 1, 2, 3] rfl rfl (V.eqst ?_ j53)
      first
        | (simp [bi, *]; done)
        | (simp_all [bi]; done)
    · refine V_iconst (v := 1) dX8_house_48 (by decide) ?_
      refine V_goto (tgt := 53) dX8_house_49 (by decide) ?_
      refine V.fin [0, 1, 2, 3] rfl rfl (V.eqst ?_ j53)
      first
        | (simp [bi, *]; done)
        | (simp_all [bi]; done)
  refine V_aload_n (i := 0) dX8_house_0 rfl rfl ?_
  refine Cv0_0 (d := 3) cv_X8_89 dX8_house_1 (t_X8_begins hA) (hp20 hA) rfl rfl (Nat.le_of_ble_eq_true rfl) ⟨Nat.le_refl _, Nat.le_refl _⟩ (by decide) ⟨Nat.le_of_ble_eq_true rfl, Nat.le_of_ble_eq_true rfl⟩ ?_
  refine V.eqG (congrArg (HP A) beg_rs) ?_
  refine V_aload_n (i := 0) dX8_house_4 rfl rfl ?_
  refine V_getf fl_X8_9 dX8_house_5 (hp20 hA) rfl ?_
  refine V_iconst (v := nI 1) dX8_house_8 (by decide) ?_
  refine VL_21 dX8_house_9 hA rfl (by omega) ?_
  refine V_istore_n (i := 3) dX8_house_10 rfl (by decide) ?_
  refine V_aload_n (i := 0) dX8_house_11 rfl rfl ?_
  refine V_iload_n (i := 1) dX8_house_12 rfl rfl ?_
  refine V_iconst (v := 0) dX8_house_13 (by decide) ?_
  refine V_bipush (v := 9) dX8_house_14 (by decide) ?_
  refine Cs1_3 (d := 3) cs_X8_66 dX8_house_16 (t_X8_isIn hA) (Nat.le_of_ble_eq_true rfl) ⟨Nat.le_refl _, Nat.le_refl _⟩ (by decide) ⟨Nat.le_of_ble_eq_true rfl, Nat.le_of_ble_eq_true rfl⟩ ?_
  refine V_if_eq (tgt := 31) dX8_house_19 (by decide) (fun h19 => ?_) (fun h19 => ?_)
  · replace h19 := bi_0.mp h19
    refine V_iconst (v := 1) dX8_house_31 (by decide) ?_
    refine V_goto (tgt := 36) dX8_house_32 (by decide) ?_
    refine V.fin [1, 2, 3, 0] rfl rfl (V.eqst ?_ j36)
    first
      | (simp [bi, *]; done)
      | (simp_all [bi]; done)
  · replace h19 := bi_1.mp h19
    refine V_iload_n (i := 2) dX8_house_22 rfl rfl ?_
    refine V_iconst (v := 0) dX8_house_23 (by decide) ?_
    refine V_iconst (v := 2) dX8_house_24 (by decide) ?_
    refine Cs1_3 (d := 3) cs_X8_66 dX8_house_25 (t_X8_isIn hA) (Nat.le_of_ble_eq_true rfl) ⟨Nat.le_refl _, Nat.le_refl _⟩ (by decide) ⟨Nat.le_of_ble_eq_true rfl, Nat.le_of_ble_eq_true rfl⟩ ?_
    refine V_if_ne (tgt := 35) dX8_house_28 (by decide) (fun h28 => ?_) (fun h28 => ?_)
    · replace h28 := bi_1.mp h28
      refine V_iconst (v := 0) dX8_house_35 (by decide) ?_
      refine V.fin [1, 2, 3, 0] rfl rfl (V.eqst ?_ j36)
      first
        | (simp [bi, *]; done)
        | (simp_all [bi]; done)
    · replace h28 := bi_0.mp h28
      refine V_iconst (v := 1) dX8_house_31 (by decide) ?_
      refine V_goto (tgt := 36) dX8_house_32 (by decide) ?_
      refine V.fin [1, 2, 3, 0] rfl rfl (V.eqst ?_ j36)
      first
        | (simp [bi, *]; done)
        | (simp_all [bi]; done)

theorem t_X8_carrierBecomese {D : va_G} {s0 : State} {l : Launch} {B : Nat} {A : AT} {σ : Sg} (hA : AOK B A) {P : Int32 × Int32} {u : Nat → Int32} {h f : Nat} {x y : Int32} (e : x = nI h) (hh : h < 4) (hf : f < 4) : Tri D s0 l yX8_carrierBecomes cX8_carrierBecomes 4 (none) 0 0 0 [.ref (A 20 0 0), .int x, .int (nI f), .int y] (HP A (rs σ P u)) (fun r G' => r = none ∧ G' = HP A (rs σ P (up u (kx h f) y))) noX := by
  subst e
  exact t_X8_carrierBecomes hA hh hf

set_option maxHeartbeats 4000000 in
set_option maxRecDepth 100000 in
theorem t_X8_carrier {D : va_G} {s0 : State} {l : Launch} {B : Nat} {A : AT} {σ : Sg} (hA : AOK B A) {cn : Nat} (hcn : σ.1 20 0 5 = nI cn) (hc8 : cn ≤ 8) {nc : Nat} (h2 : (σ.1 21 0) 2 = nI nc) (hm : nc ≤ 4) {a : Int32} : Tri D s0 l yX8_carrier cX8_carrier 3 ((some .int)) 3 0 0 [.ref (A 20 0 0), .int a] (HP A σ) (fun r G' => r = some (.int (finA (R_carrier (σ.1 21 0) (0, σ.1 20 0 16) nc a))) ∧ G' = HP A (finS σ (R_carrier (σ.1 21 0) (0, σ.1 20 0 16) nc a) cn 0 1)) noX := by
  refine Tri.ofV (own := RX8) (mn := "carrier") (by decide +kernel) rfl rfl (Nat.le_of_ble_eq_true rfl) ?_
  have j43 : V D s0 RX8 "carrier" cX8_carrier 3 ((some .int)) [] l (rmd 3 0 0) (Zm D s0 0 0 (fun r G' => r = some (.int (finA (R_carrier (σ.1 21 0) (0, σ.1 20 0 16) nc a))) ∧ G' = HP A (finS σ (R_carrier (σ.1 21 0) (0, σ.1 20 0 16) nc a) cn 0 1)) noX) 43 [(0, .ref (A 20 0 0)), (1, .int a), (2, .int ((σ.1 21 0) 2))] [.int (bi (decide ((σ.1 21 0) 2 = 4))), .ref (A 20 0 0)] (HP A (rs (beg σ) (hn (0, σ.1 20 0 16) (ob a 1 9) 1 0) (σ.1 21 0))) 0 0 := by
    refine V_iconst (v := 2) dX8_carrier_43 (by decide) ?_
    refine V_iconst (v := 4) dX8_carrier_44 (by decide) ?_
    refine Cv0_3 (d := 3) cv_X8_92 dX8_carrier_45 (t_X8_hinders hA) (hp20 hA) rfl rfl (Nat.le_of_ble_eq_true rfl) ⟨Nat.le_refl _, Nat.le_refl _⟩ (by decide) ⟨Nat.le_of_ble_eq_true rfl, Nat.le_of_ble_eq_true rfl⟩ ?_
    refine V_aload_n (i := 0) dX8_carrier_48 rfl rfl ?_
    refine V_getf fl_X8_41 dX8_carrier_49 (hp20 hA) rfl ?_
    refine V_if_ne (tgt := 72) dX8_carrier_52 (by decide) (fun h52 => ?_) (fun h52 => ?_)
    · rw [rs_15] at h52
      refine V_aload_n (i := 0) dX8_carrier_72 rfl rfl ?_
      refine V_iload_n (i := 2) dX8_carrier_73 rfl rfl ?_
      refine V_iconst (v := 0) dX8_carrier_74 (by decide) ?_
      refine V_iconst (v := 1) dX8_carrier_75 (by decide) ?_
      refine Cv1_3 (d := 3) cv_X8_100 dX8_carrier_76 (t_X8_ends hA (fcn hcn) hc8) (hp20 hA) rfl rfl (Nat.le_of_ble_eq_true rfl) ⟨Nat.le_refl _, Nat.le_refl _⟩ (by decide) ⟨Nat.le_of_ble_eq_true rfl, Nat.le_of_ble_eq_true rfl⟩ ?_
      refine V_iret dX8_carrier_79 rfl (Nat.le_of_ble_eq_true rfl) (Nat.le_of_ble_eq_true rfl) ?_
      refine ffin (R := (R_carrier (σ.1 21 0) (0, σ.1 20 0 16) nc a)) ?_
      first | (rw [R_carrier, if_pos h52]; rfl) | (rw [R_carrier, if_neg h52])
    · rw [rs_15] at h52
      have hne := (PX2 h52 (by decide) (by decide)).2.1
      rw [decide_eq_false_iff_not, h2] at hne
      have hlt : nc < 4 := by
        have q : ¬ nc = 4 := fun z => hne (by rw [z]; rfl)
        omega
      refine V_aload_n (i := 0) dX8_carrier_55 rfl rfl ?_
      refine V_iload_n (i := 2) dX8_carrier_56 rfl rfl ?_
      refine V_iconst (v := nI 0) dX8_carrier_57 (by decide) ?_
      refine V_iload_n (i := 1) dX8_carrier_58 rfl rfl ?_
      refine Cv0_3 (d := 3) cv_X8_108 dX8_carrier_59 (t_X8_carrierBecomese hA h2 (by omega) (by decide)) (hp20 hA) rfl rfl (Nat.le_of_ble_eq_true rfl) ⟨Nat.le_refl _, Nat.le_refl _⟩ (by decide) ⟨Nat.le_of_ble_eq_true rfl, Nat.le_of_ble_eq_true rfl⟩ ?_
      refine V_aload_n (i := 0) dX8_carrier_62 rfl rfl ?_
      refine V_getf fl_X8_9 dX8_carrier_63 (hp20 hA) rfl ?_
      refine V_iconst (v := nI 2) dX8_carrier_66 (by decide) ?_
      refine V_dup2 dX8_carrier_67 rfl rfl ?_
      refine VL_21 dX8_carrier_68 hA rfl (by omega) ?_
      refine V_iconst (v := 1) dX8_carrier_69 (by decide) ?_
      refine V_iadd dX8_carrier_70 ?_
      refine VR_21 dX8_carrier_71 hA rfl (by omega) ?_
      refine V_aload_n (i := 0) dX8_carrier_72 rfl rfl ?_
      refine V_iload_n (i := 2) dX8_carrier_73 rfl rfl ?_
      refine V_iconst (v := 0) dX8_carrier_74 (by decide) ?_
      refine V_iconst (v := 1) dX8_carrier_75 (by decide) ?_
      refine Cv1_3 (d := 3) cv_X8_100 dX8_carrier_76 (t_X8_ends hA (fcn hcn) hc8) (hp20 hA) rfl rfl (Nat.le_of_ble_eq_true rfl) ⟨Nat.le_refl _, Nat.le_refl _⟩ (by decide) ⟨Nat.le_of_ble_eq_true rfl, Nat.le_of_ble_eq_true rfl⟩ ?_
      refine V_iret dX8_carrier_79 rfl (Nat.le_of_ble_eq_true rfl) (Nat.le_of_ble_eq_true rfl) ?_
      refine ffin (R := (R_carrier (σ.1 21 0) (0, σ.1 20 0 16) nc a)) ?_
      first | (rw [R_carrier, if_pos h52]; rfl) | (rw [R_carrier, if_neg h52])
  have j27 : V D s0 RX8 "carrier" cX8_carrier 3 ((some .int)) [] l (rmd 3 0 0) (Zm D s0 0 0 (fun r G' => r = some (.int (finA (R_carrier (σ.1 21 0) (0, σ.1 20 0 16) nc a))) ∧ G' = HP A (finS σ (R_carrier (σ.1 21 0) (0, σ.1 20 0 16) nc a) cn 0 1)) noX) 27 [(0, .ref (A 20 0 0)), (1, .int a), (2, .int ((σ.1 21 0) 2))] [.int (bi (ob a 1 9)), .ref (A 20 0 0)] (HP A (rs (beg σ) (0, σ.1 20 0 16) (σ.1 21 0))) 0 0 := by
    refine V_iconst (v := 1) dX8_carrier_27 (by decide) ?_
    refine V_iconst (v := 0) dX8_carrier_28 (by decide) ?_
    refine Cv0_3 (d := 3) cv_X8_92 dX8_carrier_29 (t_X8_hinders hA) (hp20 hA) rfl rfl (Nat.le_of_ble_eq_true rfl) ⟨Nat.le_refl _, Nat.le_refl _⟩ (by decide) ⟨Nat.le_of_ble_eq_true rfl, Nat.le_of_ble_eq_true rfl⟩ ?_
    refine V_aload_n (i := 0) dX8_carrier_32 rfl rfl ?_
    refine V_iload_n (i := 2) dX8_carrier_33 rfl rfl ?_
    refine V_iconst (v := 4) dX8_carrier_34 (by decide) ?_
    refine V_icmp_ne (tgt := 42) dX8_carrier_35 (by decide) (fun h35 => ?_) (fun h35 => ?_)
    · refine V_iconst (v := 0) dX8_carrier_42 (by decide) ?_
      refine V.fin [0, 1, 2] rfl rfl (V.eqst ?_ j43)
      first
        | (simp [bi, *]; done)
        | (simp_all [bi]; done)
    · refine V_iconst (v := 1) dX8_carrier_38 (by decide) ?_
      refine V_goto (tgt := 43) dX8_carrier_39 (by decide) ?_
      refine V.fin [0, 1, 2] rfl rfl (V.eqst ?_ j43)
      first
        | (simp [bi, *]; done)
        | (simp_all [bi]; done)
  refine V_aload_n (i := 0) dX8_carrier_0 rfl rfl ?_
  refine Cv0_0 (d := 3) cv_X8_89 dX8_carrier_1 (t_X8_begins hA) (hp20 hA) rfl rfl (Nat.le_of_ble_eq_true rfl) ⟨Nat.le_refl _, Nat.le_refl _⟩ (by decide) ⟨Nat.le_of_ble_eq_true rfl, Nat.le_of_ble_eq_true rfl⟩ ?_
  refine V.eqG (congrArg (HP A) beg_rs) ?_
  refine V_aload_n (i := 0) dX8_carrier_4 rfl rfl ?_
  refine V_getf fl_X8_9 dX8_carrier_5 (hp20 hA) rfl ?_
  refine V_iconst (v := nI 2) dX8_carrier_8 (by decide) ?_
  refine VL_21 dX8_carrier_9 hA rfl (by omega) ?_
  refine V_istore_n (i := 2) dX8_carrier_10 rfl (by decide) ?_
  refine V_aload_n (i := 0) dX8_carrier_11 rfl rfl ?_
  refine V_iload_n (i := 1) dX8_carrier_12 rfl rfl ?_
  refine V_iconst (v := 1) dX8_carrier_13 (by decide) ?_
  refine V_bipush (v := 9) dX8_carrier_14 (by decide) ?_
  refine Cs1_3 (d := 3) cs_X8_66 dX8_carrier_16 (t_X8_isIn hA) (Nat.le_of_ble_eq_true rfl) ⟨Nat.le_refl _, Nat.le_refl _⟩ (by decide) ⟨Nat.le_of_ble_eq_true rfl, Nat.le_of_ble_eq_true rfl⟩ ?_
  refine V_if_ne (tgt := 26) dX8_carrier_19 (by decide) (fun h19 => ?_) (fun h19 => ?_)
  · replace h19 := bi_1.mp h19
    refine V_iconst (v := 0) dX8_carrier_26 (by decide) ?_
    refine V.fin [1, 2, 0] rfl rfl (V.eqst ?_ j27)
    first
      | (simp [bi, *]; done)
      | (simp_all [bi]; done)
  · replace h19 := bi_0.mp h19
    refine V_iconst (v := 1) dX8_carrier_22 (by decide) ?_
    refine V_goto (tgt := 27) dX8_carrier_23 (by decide) ?_
    refine V.fin [1, 2, 0] rfl rfl (V.eqst ?_ j27)
    first
      | (simp [bi, *]; done)
      | (simp_all [bi]; done)

set_option maxHeartbeats 4000000 in
set_option maxRecDepth 100000 in
theorem t_X8_order {D : va_G} {s0 : State} {l : Launch} {B : Nat} {A : AT} {σ : Sg} (hA : AOK B A) {cn : Nat} (hcn : σ.1 20 0 5 = nI cn) (hc8 : cn ≤ 8) {nh : Nat} (h1 : (σ.1 21 0) 1 = nI nh) (hn8 : nh ≤ 8) {a b : Int32} : Tri D s0 l yX8_order cX8_order 4 ((some .int)) 3 0 0 [.ref (A 20 0 0), .int a, .int b] (HP A σ) (fun r G' => r = some (.int (finA (R_order (σ.1 21 0) (0, σ.1 20 0 16) nh a b))) ∧ G' = HP A (finS σ (R_order (σ.1 21 0) (0, σ.1 20 0 16) nh a b) cn 0 1)) noX := by
  refine Tri.ofV (own := RX8) (mn := "order") (by decide +kernel) rfl rfl (Nat.le_of_ble_eq_true rfl) ?_
  have j40 : V D s0 RX8 "order" cX8_order 4 ((some .int)) [] l (rmd 3 0 0) (Zm D s0 0 0 (fun r G' => r = some (.int (finA (R_order (σ.1 21 0) (0, σ.1 20 0 16) nh a b))) ∧ G' = HP A (finS σ (R_order (σ.1 21 0) (0, σ.1 20 0 16) nh a b) cn 0 1)) noX) 40 [(0, .ref (A 20 0 0)), (1, .int a), (2, .int b), (3, .int 0)] [.int (bi (ob b 0 4)), .ref (A 20 0 0)] (HP A (rs (beg σ) (hn (0, σ.1 20 0 16) (ob a 0 (nI nh - 1)) 3 a) (σ.1 21 0))) 0 0 := by
    refine V_iconst (v := 1) dX8_order_40 (by decide) ?_
    refine V_iconst (v := 0) dX8_order_41 (by decide) ?_
    refine Cv0_3 (d := 3) cv_X8_92 dX8_order_42 (t_X8_hinders hA) (hp20 hA) rfl rfl (Nat.le_of_ble_eq_true rfl) ⟨Nat.le_refl _, Nat.le_refl _⟩ (by decide) ⟨Nat.le_of_ble_eq_true rfl, Nat.le_of_ble_eq_true rfl⟩ ?_
    refine V_aload_n (i := 0) dX8_order_45 rfl rfl ?_
    refine V_getf fl_X8_41 dX8_order_46 (hp20 hA) rfl ?_
    refine V_if_ne (tgt := 66) dX8_order_49 (by decide) (fun h49 => ?_) (fun h49 => ?_)
    · rw [rs_15] at h49
      refine V_aload_n (i := 0) dX8_order_66 rfl rfl ?_
      refine V_iload_n (i := 3) dX8_order_67 rfl rfl ?_
      refine V_iconst (v := 0) dX8_order_68 (by decide) ?_
      refine V_iconst (v := 1) dX8_order_69 (by decide) ?_
      refine Cv1_3 (d := 3) cv_X8_100 dX8_order_70 (t_X8_ends hA (fcn hcn) hc8) (hp20 hA) rfl rfl (Nat.le_of_ble_eq_true rfl) ⟨Nat.le_refl _, Nat.le_refl _⟩ (by decide) ⟨Nat.le_of_ble_eq_true rfl, Nat.le_of_ble_eq_true rfl⟩ ?_
      refine V_iret dX8_order_73 rfl (Nat.le_of_ble_eq_true rfl) (Nat.le_of_ble_eq_true rfl) ?_
      first
        | (refine ffin (R := (R_order (σ.1 21 0) (0, σ.1 20 0 16) nh a b)) ?_; rw [R_order, if_neg h49]; done)
        | (refine ffin (R := (R_order (σ.1 21 0) (0, σ.1 20 0 16) nh (nI j) b)) ?_; rw [R_order, if_pos h49, hc])
    · rw [rs_15] at h49
      obtain ⟨j, hj, rfl⟩ := ob_ex (by omega) (PX2 h49 (by decide) (by decide)).1
      have hc := nI_clamp (n := j) (by omega)
      refine V_aload_n (i := 0) dX8_order_52 rfl rfl ?_
      refine V_iload_n (i := 1) dX8_order_53 rfl rfl ?_
      refine V_iconst (v := nI 2) dX8_order_54 (by decide) ?_
      refine Cv1_2 (d := 3) cv_X8_74 dX8_order_55 (t_X8_of hA (by omega) (by decide)) (hp20 hA) rfl rfl (Nat.le_of_ble_eq_true rfl) ⟨Nat.le_refl _, Nat.le_refl _⟩ (by decide) ⟨Nat.le_of_ble_eq_true rfl, Nat.le_of_ble_eq_true rfl⟩ ?_
      refine V_istore_n (i := 3) dX8_order_58 rfl (by decide) ?_
      refine V_aload_n (i := 0) dX8_order_59 rfl rfl ?_
      refine V_iload_n (i := 1) dX8_order_60 rfl rfl ?_
      refine V_iconst (v := nI 2) dX8_order_61 (by decide) ?_
      refine V_iload_n (i := 2) dX8_order_62 rfl rfl ?_
      refine Cv0_3 (d := 3) cv_X8_96 dX8_order_63 (t_X8_becomes hA (by omega) (by decide)) (hp20 hA) rfl rfl (Nat.le_of_ble_eq_true rfl) ⟨Nat.le_refl _, Nat.le_refl _⟩ (by decide) ⟨Nat.le_of_ble_eq_true rfl, Nat.le_of_ble_eq_true rfl⟩ ?_
      refine V_aload_n (i := 0) dX8_order_66 rfl rfl ?_
      refine V_iload_n (i := 3) dX8_order_67 rfl rfl ?_
      refine V_iconst (v := 0) dX8_order_68 (by decide) ?_
      refine V_iconst (v := 1) dX8_order_69 (by decide) ?_
      refine Cv1_3 (d := 3) cv_X8_100 dX8_order_70 (t_X8_ends hA (fcn hcn) hc8) (hp20 hA) rfl rfl (Nat.le_of_ble_eq_true rfl) ⟨Nat.le_refl _, Nat.le_refl _⟩ (by decide) ⟨Nat.le_of_ble_eq_true rfl, Nat.le_of_ble_eq_true rfl⟩ ?_
      refine V_iret dX8_order_73 rfl (Nat.le_of_ble_eq_true rfl) (Nat.le_of_ble_eq_true rfl) ?_
      first
        | (refine ffin (R := (R_order (σ.1 21 0) (0, σ.1 20 0 16) nh a b)) ?_; rw [R_order, if_neg h49]; done)
        | (refine ffin (R := (R_order (σ.1 21 0) (0, σ.1 20 0 16) nh (nI j) b)) ?_; rw [R_order, if_pos h49, hc])
  have j20 : V D s0 RX8 "order" cX8_order 4 ((some .int)) [] l (rmd 3 0 0) (Zm D s0 0 0 (fun r G' => r = some (.int (finA (R_order (σ.1 21 0) (0, σ.1 20 0 16) nh a b))) ∧ G' = HP A (finS σ (R_order (σ.1 21 0) (0, σ.1 20 0 16) nh a b) cn 0 1)) noX) 20 [(0, .ref (A 20 0 0)), (1, .int a), (2, .int b), (3, .int 0)] [.int (bi (ob a 0 (nI nh - 1))), .ref (A 20 0 0)] (HP A (rs (beg σ) (0, σ.1 20 0 16) (σ.1 21 0))) 0 0 := by
    refine V_iconst (v := 3) dX8_order_20 (by decide) ?_
    refine V_iload_n (i := 1) dX8_order_21 rfl rfl ?_
    refine Cv0_3 (d := 3) cv_X8_92 dX8_order_22 (t_X8_hinders hA) (hp20 hA) rfl rfl (Nat.le_of_ble_eq_true rfl) ⟨Nat.le_refl _, Nat.le_refl _⟩ (by decide) ⟨Nat.le_of_ble_eq_true rfl, Nat.le_of_ble_eq_true rfl⟩ ?_
    refine V_aload_n (i := 0) dX8_order_25 rfl rfl ?_
    refine V_iload_n (i := 2) dX8_order_26 rfl rfl ?_
    refine V_iconst (v := 0) dX8_order_27 (by decide) ?_
    refine V_iconst (v := 4) dX8_order_28 (by decide) ?_
    refine Cs1_3 (d := 3) cs_X8_66 dX8_order_29 (t_X8_isIn hA) (Nat.le_of_ble_eq_true rfl) ⟨Nat.le_refl _, Nat.le_refl _⟩ (by decide) ⟨Nat.le_of_ble_eq_true rfl, Nat.le_of_ble_eq_true rfl⟩ ?_
    refine V_if_ne (tgt := 39) dX8_order_32 (by decide) (fun h32 => ?_) (fun h32 => ?_)
    · replace h32 := bi_1.mp h32
      refine V_iconst (v := 0) dX8_order_39 (by decide) ?_
      refine V.fin [0, 1, 2, 3] rfl rfl (V.eqst ?_ j40)
      first
        | (simp [bi, *]; done)
        | (simp_all [bi]; done)
    · replace h32 := bi_0.mp h32
      refine V_iconst (v := 1) dX8_order_35 (by decide) ?_
      refine V_goto (tgt := 40) dX8_order_36 (by decide) ?_
      refine V.fin [0, 1, 2, 3] rfl rfl (V.eqst ?_ j40)
      first
        | (simp [bi, *]; done)
        | (simp_all [bi]; done)
  refine V_aload_n (i := 0) dX8_order_0 rfl rfl ?_
  refine Cv0_0 (d := 3) cv_X8_89 dX8_order_1 (t_X8_begins hA) (hp20 hA) rfl rfl (Nat.le_of_ble_eq_true rfl) ⟨Nat.le_refl _, Nat.le_refl _⟩ (by decide) ⟨Nat.le_of_ble_eq_true rfl, Nat.le_of_ble_eq_true rfl⟩ ?_
  refine V.eqG (congrArg (HP A) beg_rs) ?_
  refine V_iconst (v := 0) dX8_order_4 (by decide) ?_
  refine V_istore_n (i := 3) dX8_order_5 rfl (by decide) ?_
  refine V_aload_n (i := 0) dX8_order_6 rfl rfl ?_
  refine V_aload_n (i := 0) dX8_order_7 rfl rfl ?_
  refine V_iload_n (i := 1) dX8_order_8 rfl rfl ?_
  refine Cv1_1 (d := 3) cv_X8_104 dX8_order_9 (t_X8_isHouse hA h1) (hp20 hA) rfl rfl (Nat.le_of_ble_eq_true rfl) ⟨Nat.le_refl _, Nat.le_refl _⟩ (by decide) ⟨Nat.le_of_ble_eq_true rfl, Nat.le_of_ble_eq_true rfl⟩ ?_
  refine V_if_ne (tgt := 19) dX8_order_12 (by decide) (fun h12 => ?_) (fun h12 => ?_)
  · replace h12 := bi_1.mp h12
    refine V_iconst (v := 0) dX8_order_19 (by decide) ?_
    refine V.fin [1, 2, 3, 0] rfl rfl (V.eqst ?_ j20)
    first
      | (simp [bi, *]; done)
      | (simp_all [bi]; done)
  · replace h12 := bi_0.mp h12
    refine V_iconst (v := 1) dX8_order_15 (by decide) ?_
    refine V_goto (tgt := 20) dX8_order_16 (by decide) ?_
    refine V.fin [1, 2, 3, 0] rfl rfl (V.eqst ?_ j20)
    first
      | (simp [bi, *]; done)
      | (simp_all [bi]; done)
