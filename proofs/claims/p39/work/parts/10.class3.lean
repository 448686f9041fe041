/-! the class: streets, the rest -/
theorem S_st_y {w : Nat → Int32} {h n : Nat} (c : (S_st w h n).2.1 < S_can w n h ∨ ((¬ (S_st w h n).1 = -1 ∧ S_can w n h = (S_st w h n).2.1) ∧ w (kx n 2) < (S_st w h n).2.2)) : S_st w h (n + 1) = (nI n, S_can w n h, w (kx n 2)) := if_pos c
theorem S_st_n {w : Nat → Int32} {h n : Nat} (c : ¬ ((S_st w h n).2.1 < S_can w n h ∨ ((¬ (S_st w h n).1 = -1 ∧ S_can w n h = (S_st w h n).2.1) ∧ w (kx n 2) < (S_st w h n).2.2))) : S_st w h (n + 1) = S_st w h n := if_neg c

set_option maxHeartbeats 4000000 in
set_option maxRecDepth 100000 in
theorem t_X5_sacksOfCarriers {D : va_G} {s0 : State} {l : Launch} {B : Nat} {A : AT} {σ : Sg} (hA : AOK B A) {k nc : Nat} (hk : k < 11) (h2 : σ.1 5 k 2 = nI nc) (hn : nc ≤ 4) : Tri D s0 l yX5_sacksOfCarriers cX5_sacksOfCarriers 3 ((some .int)) 0 0 0 [.ref (A 5 k 0)] (HP A σ) (fun r G' => r = some (.int (sm (fun c => σ.1 5 k (kx c 3)) nc)) ∧ G' = HP A σ) noX := by
  refine Tri.ofV (own := RX5) (mn := "sacksOfCarriers") (by decide +kernel) rfl rfl (Nat.le_of_ble_eq_true rfl) ?_
  have loop : ∀ n i : Nat, i + n = nc → V D s0 RX5 "sacksOfCarriers" cX5_sacksOfCarriers 3 ((some .int)) [] l (rmd 0 0 0) (Zm D s0 0 0 (fun r G' => r = some (.int (sm (fun c => σ.1 5 k (kx c 3)) nc)) ∧ G' = HP A σ) noX) 4 [(0, .ref (A 5 k 0)), (1, .int (sm (fun c => σ.1 5 k (kx c 3)) i)), (2, .int (nI i))] [] (HP A σ) 0 0 := by
    intro n
    induction n with
    | zero =>
      intro i hi9
      obtain rfl : nc = i := by omega
      refine V_iload_n (i := 2) dX5_sacksOfCarriers_4 rfl rfl ?_
      refine V_aload_n (i := 0) dX5_sacksOfCarriers_5 rfl rfl ?_
      refine V_getf fl_X5_49 dX5_sacksOfCarriers_6 (hp5 hA (by omega)) rfl ?_
      refine V_icmp_ge (tgt := 30) dX5_sacksOfCarriers_9 (by decide) (fun _ => ?_) (fun h9 => by first | exact absurd (by rw [h2]; exact nI_le (Nat.le_refl _) (by omega)) h9 | exact absurd h9 (by rw [h2]; exact nI_le (Nat.le_refl _) (by omega)))
      refine V_iload_n (i := 1) dX5_sacksOfCarriers_30 rfl rfl ?_
      refine V_iret dX5_sacksOfCarriers_31 rfl (Nat.le_of_ble_eq_true rfl) (Nat.le_of_ble_eq_true rfl) ?_
      exact ⟨rfl, rfl⟩
    | succ n ih =>
      intro i hi9
      have k9 := ih (i + 1) (by omega)
      have hi8 : i < nc := by omega
      refine V_iload_n (i := 2) dX5_sacksOfCarriers_4 rfl rfl ?_
      refine V_aload_n (i := 0) dX5_sacksOfCarriers_5 rfl rfl ?_
      refine V_getf fl_X5_49 dX5_sacksOfCarriers_6 (hp5 hA (by omega)) rfl ?_
      refine V_icmp_ge (tgt := 30) dX5_sacksOfCarriers_9 (by decide) (fun h9 => by first | exact absurd h9 (by rw [h2]; exact nI_ge (by omega) (by omega)) | exact absurd (by rw [h2]; exact nI_ge (by omega) (by omega)) h9) (fun _ => ?_)
      refine V_iload_n (i := 1) dX5_sacksOfCarriers_12 rfl rfl ?_
      refine V_aload_n (i := 0) dX5_sacksOfCarriers_13 rfl rfl ?_
      refine V_getf fl_X5_19 dX5_sacksOfCarriers_14 (hp5 hA (by omega)) rfl ?_
      refine V_iload_n (i := 2) dX5_sacksOfCarriers_17 rfl rfl ?_
      refine V_aald9 dX5_sacksOfCarriers_18 (hp7 hA hk) rfl rfl (by omega) (by decide) rfl ?_
      refine V_getf fl_X5_92 dX5_sacksOfCarriers_19 (hp10 hA (by omega) (by omega)) rfl ?_
      refine V_iadd dX5_sacksOfCarriers_22 ?_
      refine V_istore_n (i := 1) dX5_sacksOfCarriers_23 rfl (by decide) ?_
      refine V_iinc (i := 2) dX5_sacksOfCarriers_24 rfl (inc1 _) (by decide) ?_
      refine V_goto (tgt := 4) dX5_sacksOfCarriers_27 (by decide) ?_
      refine V.fin [2, 1, 0] rfl (congrArg (HP A) ?_) k9
      rfl
  refine V_iconst (v := 0) dX5_sacksOfCarriers_0 (by decide) ?_
  refine V_istore_n (i := 1) dX5_sacksOfCarriers_1 rfl (by decide) ?_
  refine V_iconst (v := nI 0) dX5_sacksOfCarriers_2 (by decide) ?_
  refine V_istore_n (i := 2) dX5_sacksOfCarriers_3 rfl (by decide) ?_
  exact V.fin [2, 1, 0] rfl rfl (loop nc 0 (by omega))

set_option maxHeartbeats 4000000 in
set_option maxRecDepth 100000 in
theorem t_X5_coinsForSacks {D : va_G} {s0 : State} {l : Launch} {B : Nat} {A : AT} {σ : Sg} (hA : AOK B A) {k nh : Nat} (hk : k < 11) (h1 : σ.1 5 k 1 = nI nh) (hn : nh ≤ 8) : Tri D s0 l yX5_coinsForSacks cX5_coinsForSacks 1 ((some .int)) 3 0 0 [.ref (A 5 k 0)] (HP A σ) (fun r G' => r = some (.int (σ.1 5 k 7 + S_sum (σ.1 5 k) nh 4)) ∧ G' = HP A σ) noX := by
  refine Tri.ofV (own := RX5) (mn := "coinsForSacks") (by decide +kernel) rfl rfl (Nat.le_of_ble_eq_true rfl) ?_
  refine V_aload_n (i := 0) dX5_coinsForSacks_0 rfl rfl ?_
  refine V_getf fl_X5_61 dX5_coinsForSacks_1 (hp5 hA (by omega)) rfl ?_
  refine V_aload_n (i := 0) dX5_coinsForSacks_4 rfl rfl ?_
  refine V_iconst (v := nI 4) dX5_coinsForSacks_5 (by decide) ?_
  refine Cv1_1 (d := 3) cv_X5_95 dX5_coinsForSacks_6 (t_X5_sumOf hA hk h1 hn (by omega)) (hp5 hA (by omega)) rfl rfl (Nat.le_of_ble_eq_true rfl) ⟨Nat.le_refl _, Nat.le_refl _⟩ (by decide) ⟨Nat.le_of_ble_eq_true rfl, Nat.le_of_ble_eq_true rfl⟩ ?_
  refine V_iadd dX5_coinsForSacks_9 ?_
  refine V_iret dX5_coinsForSacks_10 rfl (Nat.le_of_ble_eq_true rfl) (Nat.le_of_ble_eq_true rfl) ?_
  exact ⟨rfl, rfl⟩

set_option maxHeartbeats 4000000 in
set_option maxRecDepth 100000 in
theorem t_X5_number {D : va_G} {s0 : State} {l : Launch} {B : Nat} {A : AT} {σ : Sg} (hA : AOK B A) {k nh : Nat} (hk : k < 11) (h1 : σ.1 5 k 1 = nI nh) (hn : nh ≤ 8) {q : Nat} (hq : q < 14) : Tri D s0 l yX5_number cX5_number 2 ((some .int)) 3 0 0 [.ref (A 5 k 0), .int (nI q)] (HP A σ) (fun r G' => r = some (.int (S_num (σ.1 5 k) nh q)) ∧ G' = HP A σ) noX := by
  refine Tri.ofV (own := RX5) (mn := "number") (by decide +kernel) rfl rfl (Nat.le_of_ble_eq_true rfl) ?_
  refine V_iload_n (i := 1) dX5_number_0 rfl rfl ?_
  rcases (by omega : q = 0 ∨ q = 1 ∨ q = 2 ∨ q = 3 ∨ q = 4 ∨ q = 5 ∨ q = 6 ∨ q = 7 ∨ q = 8 ∨ q = 9 ∨ q = 10 ∨ q = 11 ∨ q = 12 ∨ q = 13) with rfl | rfl | rfl | rfl | rfl | rfl | rfl | rfl | rfl | rfl | rfl | rfl | rfl | rfl
  · refine V_tableIn (tgt := 68) dX5_number_1 (by decide) (by decide) rfl (by decide) ?_
    refine V_aload_n (i := 0) dX5_number_68 rfl rfl ?_
    refine V_getf fl_X5_52 dX5_number_69 (hp5 hA (by omega)) rfl ?_
    refine V_iret dX5_number_72 rfl (Nat.le_of_ble_eq_true rfl) (Nat.le_of_ble_eq_true rfl) ?_
    exact ⟨rfl, rfl⟩
  · refine V_tableIn (tgt := 73) dX5_number_1 (by decide) (by decide) rfl (by decide) ?_
    refine V_aload_n (i := 0) dX5_number_73 rfl rfl ?_
    refine V_getf fl_X5_46 dX5_number_74 (hp5 hA (by omega)) rfl ?_
    refine V_iret dX5_number_77 rfl (Nat.le_of_ble_eq_true rfl) (Nat.le_of_ble_eq_true rfl) ?_
    exact ⟨rfl, rfl⟩
  · refine V_tableIn (tgt := 78) dX5_number_1 (by decide) (by decide) rfl (by decide) ?_
    refine V_aload_n (i := 0) dX5_number_78 rfl rfl ?_
    refine V_getf fl_X5_49 dX5_number_79 (hp5 hA (by omega)) rfl ?_
    refine V_iret dX5_number_82 rfl (Nat.le_of_ble_eq_true rfl) (Nat.le_of_ble_eq_true rfl) ?_
    exact ⟨rfl, rfl⟩
  · refine V_tableIn (tgt := 83) dX5_number_1 (by decide) (by decide) rfl (by decide) ?_
    refine V_aload_n (i := 0) dX5_number_83 rfl rfl ?_
    refine V_getf fl_X5_55 dX5_number_84 (hp5 hA (by omega)) rfl ?_
    refine V_iret dX5_number_87 rfl (Nat.le_of_ble_eq_true rfl) (Nat.le_of_ble_eq_true rfl) ?_
    exact ⟨rfl, rfl⟩
  · refine V_tableIn (tgt := 88) dX5_number_1 (by decide) (by decide) rfl (by decide) ?_
    refine V_aload_n (i := 0) dX5_number_88 rfl rfl ?_
    refine V_getf fl_X5_58 dX5_number_89 (hp5 hA (by omega)) rfl ?_
    refine V_iret dX5_number_92 rfl (Nat.le_of_ble_eq_true rfl) (Nat.le_of_ble_eq_true rfl) ?_
    exact ⟨rfl, rfl⟩
  · refine V_tableIn (tgt := 93) dX5_number_1 (by decide) (by decide) rfl (by decide) ?_
    refine V_aload_n (i := 0) dX5_number_93 rfl rfl ?_
    refine V_getf fl_X5_27 dX5_number_94 (hp5 hA (by omega)) rfl ?_
    refine V_iret dX5_number_97 rfl (Nat.le_of_ble_eq_true rfl) (Nat.le_of_ble_eq_true rfl) ?_
    exact ⟨rfl, rfl⟩
  · refine V_tableIn (tgt := 98) dX5_number_1 (by decide) (by decide) rfl (by decide) ?_
    refine V_aload_n (i := 0) dX5_number_98 rfl rfl ?_
    refine V_iconst (v := nI 3) dX5_number_99 (by decide) ?_
    refine Cv1_1 (d := 3) cv_X5_95 dX5_number_100 (t_X5_sumOf hA hk h1 hn (by omega)) (hp5 hA (by omega)) rfl rfl (Nat.le_of_ble_eq_true rfl) ⟨Nat.le_refl _, Nat.le_refl _⟩ (by decide) ⟨Nat.le_of_ble_eq_true rfl, Nat.le_of_ble_eq_true rfl⟩ ?_
    refine V_iret dX5_number_103 rfl (Nat.le_of_ble_eq_true rfl) (Nat.le_of_ble_eq_true rfl) ?_
    exact ⟨rfl, rfl⟩
  · refine V_tableIn (tgt := 104) dX5_number_1 (by decide) (by decide) rfl (by decide) ?_
    refine V_aload_n (i := 0) dX5_number_104 rfl rfl ?_
    refine V_iconst (v := nI 4) dX5_number_105 (by decide) ?_
    refine Cv1_1 (d := 3) cv_X5_95 dX5_number_106 (t_X5_sumOf hA hk h1 hn (by omega)) (hp5 hA (by omega)) rfl rfl (Nat.le_of_ble_eq_true rfl) ⟨Nat.le_refl _, Nat.le_refl _⟩ (by decide) ⟨Nat.le_of_ble_eq_true rfl, Nat.le_of_ble_eq_true rfl⟩ ?_
    refine V_iret dX5_number_109 rfl (Nat.le_of_ble_eq_true rfl) (Nat.le_of_ble_eq_true rfl) ?_
    exact ⟨rfl, rfl⟩
  · refine V_tableIn (tgt := 110) dX5_number_1 (by decide) (by decide) rfl (by decide) ?_
    refine V_aload_n (i := 0) dX5_number_110 rfl rfl ?_
    refine V_iconst (v := nI 5) dX5_number_111 (by decide) ?_
    refine Cv1_1 (d := 3) cv_X5_95 dX5_number_112 (t_X5_sumOf hA hk h1 hn (by omega)) (hp5 hA (by omega)) rfl rfl (Nat.le_of_ble_eq_true rfl) ⟨Nat.le_refl _, Nat.le_refl _⟩ (by decide) ⟨Nat.le_of_ble_eq_true rfl, Nat.le_of_ble_eq_true rfl⟩ ?_
    refine V_iret dX5_number_115 rfl (Nat.le_of_ble_eq_true rfl) (Nat.le_of_ble_eq_true rfl) ?_
    exact ⟨rfl, rfl⟩
  · refine V_tableIn (tgt := 116) dX5_number_1 (by decide) (by decide) rfl (by decide) ?_
    refine V_aload_n (i := 0) dX5_number_116 rfl rfl ?_
    refine V_getf fl_X5_31 dX5_number_117 (hp5 hA (by omega)) rfl ?_
    refine V_iret dX5_number_120 rfl (Nat.le_of_ble_eq_true rfl) (Nat.le_of_ble_eq_true rfl) ?_
    exact ⟨rfl, rfl⟩
  · refine V_tableIn (tgt := 121) dX5_number_1 (by decide) (by decide) rfl (by decide) ?_
    refine V_aload_n (i := 0) dX5_number_121 rfl rfl ?_
    refine V_getf fl_X5_61 dX5_number_122 (hp5 hA (by omega)) rfl ?_
    refine V_iret dX5_number_125 rfl (Nat.le_of_ble_eq_true rfl) (Nat.le_of_ble_eq_true rfl) ?_
    exact ⟨rfl, rfl⟩
  · refine V_tableIn (tgt := 126) dX5_number_1 (by decide) (by decide) rfl (by decide) ?_
    refine V_aload_n (i := 0) dX5_number_126 rfl rfl ?_
    refine V_getf fl_X5_34 dX5_number_127 (hp5 hA (by omega)) rfl ?_
    refine V_iret dX5_number_130 rfl (Nat.le_of_ble_eq_true rfl) (Nat.le_of_ble_eq_true rfl) ?_
    exact ⟨rfl, rfl⟩
  · refine V_tableIn (tgt := 131) dX5_number_1 (by decide) (by decide) rfl (by decide) ?_
    refine V_aload_n (i := 0) dX5_number_131 rfl rfl ?_
    refine Cv1_0 (d := 3) cv_X5_115 dX5_number_132 (t_X5_shoesLeft hA hk) (hp5 hA (by omega)) rfl rfl (Nat.le_of_ble_eq_true rfl) ⟨Nat.le_refl _, Nat.le_refl _⟩ (by decide) ⟨Nat.le_of_ble_eq_true rfl, Nat.le_of_ble_eq_true rfl⟩ ?_
    refine V_iret dX5_number_135 rfl (Nat.le_of_ble_eq_true rfl) (Nat.le_of_ble_eq_true rfl) ?_
    exact ⟨rfl, rfl⟩
  · refine V_tableOut (tgt := 136) dX5_number_1 (by decide) (by decide) ?_
    refine V_aload_n (i := 0) dX5_number_136 rfl rfl ?_
    refine V_getf fl_X5_64 dX5_number_137 (hp5 hA (by omega)) rfl ?_
    refine V_iret dX5_number_140 rfl (Nat.le_of_ble_eq_true rfl) (Nat.le_of_ble_eq_true rfl) ?_
    exact ⟨rfl, rfl⟩

set_option maxHeartbeats 4000000 in
set_option maxRecDepth 100000 in
theorem t_X5_isAhead {D : va_G} {s0 : State} {l : Launch} {B : Nat} {A : AT} {σ : Sg} (hA : AOK B A) {k nh : Nat} (hk : k < 11) (h1 : σ.1 5 k 1 = nI nh) (hn : nh ≤ 8) {j i : Nat} (hj : j < nh) (hi : i < nh) : Tri D s0 l yX5_isAhead cX5_isAhead 5 ((some .boolean)) 2 0 0 [.ref (A 5 k 0), .int (nI j), .int (nI i)] (HP A σ) (fun r G' => r = some (.int (bi (S_ahead (σ.1 5 k) j i))) ∧ G' = HP A σ) noX := by
  refine Tri.ofV (own := RX5) (mn := "isAhead") (by decide +kernel) rfl rfl (Nat.le_of_ble_eq_true rfl) ?_
  refine V_aload_n (i := 0) dX5_isAhead_0 rfl rfl ?_
  refine V_iload_n (i := 1) dX5_isAhead_1 rfl rfl ?_
  refine Cv1_1 (d := 2) cv_X5_71 dX5_isAhead_2 (t_X5_houseAt_s hA hk h1 hn hj) (hp5 hA (by omega)) rfl rfl (Nat.le_of_ble_eq_true rfl) ⟨Nat.le_refl _, Nat.le_refl _⟩ (by decide) ⟨Nat.le_of_ble_eq_true rfl, Nat.le_of_ble_eq_true rfl⟩ ?_
  refine V_astore_n (i := 3) dX5_isAhead_5 rfl (by decide) ?_
  refine V_aload_n (i := 0) dX5_isAhead_6 rfl rfl ?_
  refine V_iload_n (i := 2) dX5_isAhead_7 rfl rfl ?_
  refine Cv1_1 (d := 2) cv_X5_71 dX5_isAhead_8 (t_X5_houseAt_s hA hk h1 hn hi) (hp5 hA (by omega)) rfl rfl (Nat.le_of_ble_eq_true rfl) ⟨Nat.le_refl _, Nat.le_refl _⟩ (by decide) ⟨Nat.le_of_ble_eq_true rfl, Nat.le_of_ble_eq_true rfl⟩ ?_
  refine V_astore (i := 4) dX5_isAhead_11 (by decide) ?_
  refine V_aload_n (i := 3) dX5_isAhead_13 rfl rfl ?_
  refine V_ifnull dX5_isAhead_14 ?_
  refine V_aload (i := 4) dX5_isAhead_17 rfl ?_
  refine V_ifnonnull (tgt := 24) dX5_isAhead_19 (by decide) ?_
  refine V_aload_n (i := 3) dX5_isAhead_24 rfl rfl ?_
  refine V_getf fl_X5_109 dX5_isAhead_25 (hp9 hA (by omega) (by omega)) rfl ?_
  refine V_aload (i := 4) dX5_isAhead_28 rfl ?_
  refine V_getf fl_X5_109 dX5_isAhead_30 (hp9 hA (by omega) (by omega)) rfl ?_
  refine V_icmp_eq (tgt := 54) dX5_isAhead_33 (by decide) (fun h33 => ?_) (fun h33 => ?_)
  · refine V_aload_n (i := 3) dX5_isAhead_54 rfl rfl ?_
    refine V_getf fl_X5_112 dX5_isAhead_55 (hp9 hA (by omega) (by omega)) rfl ?_
    refine V_aload (i := 4) dX5_isAhead_58 rfl ?_
    refine V_getf fl_X5_112 dX5_isAhead_60 (hp9 hA (by omega) (by omega)) rfl ?_
    refine V_icmp_eq (tgt := 86) dX5_isAhead_63 (by decide) (fun h63 => ?_) (fun h63 => ?_)
    · refine V_iload_n (i := 1) dX5_isAhead_86 rfl rfl ?_
      refine V_iload_n (i := 2) dX5_isAhead_87 rfl rfl ?_
      refine V_icmp_ge (tgt := 95) dX5_isAhead_88 (by decide) (fun h88 => ?_) (fun h88 => ?_)
      · refine V_iconst (v := 0) dX5_isAhead_95 (by decide) ?_
        refine V_zret dX5_isAhead_96 rfl (by first | rfl | exact bi_n _) (Nat.le_of_ble_eq_true rfl) (Nat.le_of_ble_eq_true rfl) ?_
        refine ⟨congrArg (fun z => some (Value.int z)) ?_, rfl⟩
        first
          | (rw [S_ahead, if_pos h33, if_pos h63, decide_eq_true ((nI_ltI (by omega) (by omega)).mp (nle_lt h88))]; rfl)
          | (rw [S_ahead, if_pos h33, if_pos h63, decide_eq_false (fun h => h88 ((nI_leI (by omega) (by omega)).mpr (by omega)))]; rfl)
          | (rw [S_ahead, if_pos h33, if_pos h63, decide_eq_false (fun h => absurd ((nI_leI (by omega) (by omega)).mp h88) (by omega))]; rfl)
          | (rw [S_ahead, if_pos h33, if_neg h63, decide_eq_true (nle_lt h75)]; rfl)
          | (rw [S_ahead, if_pos h33, if_neg h63, decide_eq_false (fun h => absurd h75 (Int32.not_le.mpr h))]; rfl)
          | (rw [S_ahead, if_neg h33, decide_eq_true (nle_lt h45)]; rfl)
          | (rw [S_ahead, if_neg h33, decide_eq_false (fun h => absurd h45 (Int32.not_le.mpr h))]; rfl)
      · refine V_iconst (v := 1) dX5_isAhead_91 (by decide) ?_
        refine V_goto (tgt := 96) dX5_isAhead_92 (by decide) ?_
        refine V_zret dX5_isAhead_96 rfl (by first | rfl | exact bi_n _) (Nat.le_of_ble_eq_true rfl) (Nat.le_of_ble_eq_true rfl) ?_
        refine ⟨congrArg (fun z => some (Value.int z)) ?_, rfl⟩
        first
          | (rw [S_ahead, if_pos h33, if_pos h63, decide_eq_true ((nI_ltI (by omega) (by omega)).mp (nle_lt h88))]; rfl)
          | (rw [S_ahead, if_pos h33, if_pos h63, decide_eq_false (fun h => h88 ((nI_leI (by omega) (by omega)).mpr (by omega)))]; rfl)
          | (rw [S_ahead, if_pos h33, if_pos h63, decide_eq_false (fun h => absurd ((nI_leI (by omega) (by omega)).mp h88) (by omega))]; rfl)
          | (rw [S_ahead, if_pos h33, if_neg h63, decide_eq_true (nle_lt h75)]; rfl)
          | (rw [S_ahead, if_pos h33, if_neg h63, decide_eq_false (fun h => absurd h75 (Int32.not_le.mpr h))]; rfl)
          | (rw [S_ahead, if_neg h33, decide_eq_true (nle_lt h45)]; rfl)
          | (rw [S_ahead, if_neg h33, decide_eq_false (fun h => absurd h45 (Int32.not_le.mpr h))]; rfl)
    · refine V_aload_n (i := 3) dX5_isAhead_66 rfl rfl ?_
      refine V_getf fl_X5_112 dX5_isAhead_67 (hp9 hA (by omega) (by omega)) rfl ?_
      refine V_aload (i := 4) dX5_isAhead_70 rfl ?_
      refine V_getf fl_X5_112 dX5_isAhead_72 (hp9 hA (by omega) (by omega)) rfl ?_
      refine V_icmp_le (tgt := 82) dX5_isAhead_75 (by decide) (fun h75 => ?_) (fun h75 => ?_)
      · refine V_iconst (v := 0) dX5_isAhead_82 (by decide) ?_
        refine V_goto (tgt := 96) dX5_isAhead_83 (by decide) ?_
        refine V_zret dX5_isAhead_96 rfl (by first | rfl | exact bi_n _) (Nat.le_of_ble_eq_true rfl) (Nat.le_of_ble_eq_true rfl) ?_
        refine ⟨congrArg (fun z => some (Value.int z)) ?_, rfl⟩
        first
          | (rw [S_ahead, if_pos h33, if_pos h63, decide_eq_true ((nI_ltI (by omega) (by omega)).mp (nle_lt h88))]; rfl)
          | (rw [S_ahead, if_pos h33, if_pos h63, decide_eq_false (fun h => h88 ((nI_leI (by omega) (by omega)).mpr (by omega)))]; rfl)
          | (rw [S_ahead, if_pos h33, if_pos h63, decide_eq_false (fun h => absurd ((nI_leI (by omega) (by omega)).mp h88) (by omega))]; rfl)
          | (rw [S_ahead, if_pos h33, if_neg h63, decide_eq_true (nle_lt h75)]; rfl)
          | (rw [S_ahead, if_pos h33, if_neg h63, decide_eq_false (fun h => absurd h75 (Int32.not_le.mpr h))]; rfl)
          | (rw [S_ahead, if_neg h33, decide_eq_true (nle_lt h45)]; rfl)
          | (rw [S_ahead, if_neg h33, decide_eq_false (fun h => absurd h45 (Int32.not_le.mpr h))]; rfl)
      · refine V_iconst (v := 1) dX5_isAhead_78 (by decide) ?_
        refine V_goto (tgt := 96) dX5_isAhead_79 (by decide) ?_
        refine V_zret dX5_isAhead_96 rfl (by first | rfl | exact bi_n _) (Nat.le_of_ble_eq_true rfl) (Nat.le_of_ble_eq_true rfl) ?_
        refine ⟨congrArg (fun z => some (Value.int z)) ?_, rfl⟩
        first
          | (rw [S_ahead, if_pos h33, if_pos h63, decide_eq_true ((nI_ltI (by omega) (by omega)).mp (nle_lt h88))]; rfl)
          | (rw [S_ahead, if_pos h33, if_pos h63, decide_eq_false (fun h => h88 ((nI_leI (by omega) (by omega)).mpr (by omega)))]; rfl)
          | (rw [S_ahead, if_pos h33, if_pos h63, decide_eq_false (fun h => absurd ((nI_leI (by omega) (by omega)).mp h88) (by omega))]; rfl)
          | (rw [S_ahead, if_pos h33, if_neg h63, decide_eq_true (nle_lt h75)]; rfl)
          | (rw [S_ahead, if_pos h33, if_neg h63, decide_eq_false (fun h => absurd h75 (Int32.not_le.mpr h))]; rfl)
          | (rw [S_ahead, if_neg h33, decide_eq_true (nle_lt h45)]; rfl)
          | (rw [S_ahead, if_neg h33, decide_eq_false (fun h => absurd h45 (Int32.not_le.mpr h))]; rfl)
  · refine V_aload_n (i := 3) dX5_isAhead_36 rfl rfl ?_
    refine V_getf fl_X5_109 dX5_isAhead_37 (hp9 hA (by omega) (by omega)) rfl ?_
    refine V_aload (i := 4) dX5_isAhead_40 rfl ?_
    refine V_getf fl_X5_109 dX5_isAhead_42 (hp9 hA (by omega) (by omega)) rfl ?_
    refine V_icmp_le (tgt := 52) dX5_isAhead_45 (by decide) (fun h45 => ?_) (fun h45 => ?_)
    · refine V_iconst (v := 0) dX5_isAhead_52 (by decide) ?_
      refine V_zret dX5_isAhead_53 rfl (by first | rfl | exact bi_n _) (Nat.le_of_ble_eq_true rfl) (Nat.le_of_ble_eq_true rfl) ?_
      refine ⟨congrArg (fun z => some (Value.int z)) ?_, rfl⟩
      first
        | (rw [S_ahead, if_pos h33, if_pos h63, decide_eq_true ((nI_ltI (by omega) (by omega)).mp (nle_lt h88))]; rfl)
        | (rw [S_ahead, if_pos h33, if_pos h63, decide_eq_false (fun h => h88 ((nI_leI (by omega) (by omega)).mpr (by omega)))]; rfl)
        | (rw [S_ahead, if_pos h33, if_pos h63, decide_eq_false (fun h => absurd ((nI_leI (by omega) (by omega)).mp h88) (by omega))]; rfl)
        | (rw [S_ahead, if_pos h33, if_neg h63, decide_eq_true (nle_lt h75)]; rfl)
        | (rw [S_ahead, if_pos h33, if_neg h63, decide_eq_false (fun h => absurd h75 (Int32.not_le.mpr h))]; rfl)
        | (rw [S_ahead, if_neg h33, decide_eq_true (nle_lt h45)]; rfl)
        | (rw [S_ahead, if_neg h33, decide_eq_false (fun h => absurd h45 (Int32.not_le.mpr h))]; rfl)
    · refine V_iconst (v := 1) dX5_isAhead_48 (by decide) ?_
      refine V_goto (tgt := 53) dX5_isAhead_49 (by decide) ?_
      refine V_zret dX5_isAhead_53 rfl (by first | rfl | exact bi_n _) (Nat.le_of_ble_eq_true rfl) (Nat.le_of_ble_eq_true rfl) ?_
      refine ⟨congrArg (fun z => some (Value.int z)) ?_, rfl⟩
      first
        | (rw [S_ahead, if_pos h33, if_pos h63, decide_eq_true ((nI_ltI (by omega) (by omega)).mp (nle_lt h88))]; rfl)
        | (rw [S_ahead, if_pos h33, if_pos h63, decide_eq_false (fun h => h88 ((nI_leI (by omega) (by omega)).mpr (by omega)))]; rfl)
        | (rw [S_ahead, if_pos h33, if_pos h63, decide_eq_false (fun h => absurd ((nI_leI (by omega) (by omega)).mp h88) (by omega))]; rfl)
        | (rw [S_ahead, if_pos h33, if_neg h63, decide_eq_true (nle_lt h75)]; rfl)
        | (rw [S_ahead, if_pos h33, if_neg h63, decide_eq_false (fun h => absurd h75 (Int32.not_le.mpr h))]; rfl)
        | (rw [S_ahead, if_neg h33, decide_eq_true (nle_lt h45)]; rfl)
        | (rw [S_ahead, if_neg h33, decide_eq_false (fun h => absurd h45 (Int32.not_le.mpr h))]; rfl)

set_option maxHeartbeats 4000000 in
set_option maxRecDepth 100000 in
theorem t_X5_houseOfRank {D : va_G} {s0 : State} {l : Launch} {B : Nat} {A : AT} {σ : Sg} (hA : AOK B A) {k nh : Nat} (hk : k < 11) (h1 : σ.1 5 k 1 = nI nh) (hn : nh ≤ 8) {x : Int32} : Tri D s0 l yX5_houseOfRank cX5_houseOfRank 5 ((some .int)) 3 0 0 [.ref (A 5 k 0), .int x] (HP A σ) (fun r G' => r = some (.int (S_rk (σ.1 5 k) nh x nh 0)) ∧ G' = HP A σ) noX := by
  refine Tri.ofV (own := RX5) (mn := "houseOfRank") (by decide +kernel) rfl rfl (Nat.le_of_ble_eq_true rfl) ?_
  have loop : ∀ n i : Nat, i + n = nh → S_rk (σ.1 5 k) nh x n i = S_rk (σ.1 5 k) nh x nh 0 → V D s0 RX5 "houseOfRank" cX5_houseOfRank 5 ((some .int)) [] l (rmd 3 0 0) (Zm D s0 0 0 (fun r G' => r = some (.int (S_rk (σ.1 5 k) nh x nh 0)) ∧ G' = HP A σ) noX) 2 [(0, .ref (A 5 k 0)), (1, .int x), (2, .int (nI i))] [] (HP A σ) 0 0 := by
    intro n
    induction n with
    | zero =>
      intro i hi9 he
      obtain rfl : i = nh := by omega
      refine V_iload_n (i := 2) dX5_houseOfRank_2 rfl rfl ?_
      refine V_aload_n (i := 0) dX5_houseOfRank_3 rfl rfl ?_
      refine V_getf fl_X5_46 dX5_houseOfRank_4 (hp5 hA (by omega)) rfl ?_
      refine V_icmp_ge (tgt := 56) dX5_houseOfRank_7 (by decide) (fun _ => ?_) (fun h7 => by first | exact absurd (by rw [h1]; exact nI_le (Nat.le_refl _) (by omega)) h7 | exact absurd h7 (by rw [h1]; exact nI_le (Nat.le_refl _) (by omega)))
      refine V_iconst (v := (-1)) dX5_houseOfRank_56 (by decide) ?_
      refine V_iret dX5_houseOfRank_57 rfl (Nat.le_of_ble_eq_true rfl) (Nat.le_of_ble_eq_true rfl) ?_
      exact ⟨congrArg (fun z => some (Value.int z)) he, rfl⟩
    | succ n ih =>
      intro i hi9 he
      have kx : V D s0 RX5 "houseOfRank" cX5_houseOfRank 5 ((some .int)) [] l (rmd 3 0 0) (Zm D s0 0 0 (fun r G' => r = some (.int (S_rk (σ.1 5 k) nh x nh 0)) ∧ G' = HP A σ) noX) 43 [(0, .ref (A 5 k 0)), (1, .int x), (2, .int (nI i)), (3, .int (S_cnt (σ.1 5 k) nh i))] [] (HP A σ) 0 0 := by
        refine V_iload_n (i := 3) dX5_houseOfRank_43 rfl rfl ?_
        refine V_iload_n (i := 1) dX5_houseOfRank_44 rfl rfl ?_
        refine V_icmp_ne (tgt := 50) dX5_houseOfRank_45 (by decide) (fun h45 => ?_) (fun h45 => ?_)
        · have e9 : S_rk (σ.1 5 k) nh x (n + 1) i = S_rk (σ.1 5 k) nh x n (i + 1) := if_neg h45
          refine V_iinc (i := 2) dX5_houseOfRank_50 rfl (inc1 _) (by decide) ?_
          refine V_goto (tgt := 2) dX5_houseOfRank_53 (by decide) ?_
          exact V.fin [1, 2, 0] rfl rfl (ih (i + 1) (by omega) (e9.symm.trans he))
        · have e9 : S_rk (σ.1 5 k) nh x (n + 1) i = nI i := if_pos h45
          refine V_iload_n (i := 2) dX5_houseOfRank_48 rfl rfl ?_
          refine V_iret dX5_houseOfRank_49 rfl (Nat.le_of_ble_eq_true rfl) (Nat.le_of_ble_eq_true rfl) ?_
          exact ⟨congrArg (fun z => some (Value.int z)) (e9.symm.trans he), rfl⟩
      have inner : ∀ n jj : Nat, jj + n = nh → V D s0 RX5 "houseOfRank" cX5_houseOfRank 5 ((some .int)) [] l (rmd 3 0 0) (Zm D s0 0 0 (fun r G' => r = some (.int (S_rk (σ.1 5 k) nh x nh 0)) ∧ G' = HP A σ) noX) 15 [(0, .ref (A 5 k 0)), (1, .int x), (2, .int (nI i)), (3, .int (sm (fun j => bi (S_ahead (σ.1 5 k) j i)) jj)), (4, .int (nI jj))] [] (HP A σ) 0 0 := by
        intro n
        induction n with
        | zero =>
          intro jj hi9
          obtain rfl : nh = jj := by omega
          refine V_iload (i := 4) dX5_houseOfRank_15 rfl ?_
          refine V_aload_n (i := 0) dX5_houseOfRank_17 rfl rfl ?_
          refine V_getf fl_X5_46 dX5_houseOfRank_18 (hp5 hA (by omega)) rfl ?_
          refine V_icmp_ge (tgt := 43) dX5_houseOfRank_21 (by decide) (fun _ => ?_) (fun h21 => by first | exact absurd (by rw [h1]; exact nI_le (Nat.le_refl _) (by omega)) h21 | exact absurd h21 (by rw [h1]; exact nI_le (Nat.le_refl _) (by omega)))
          exact V.fin [0, 1, 2, 3] rfl rfl kx
        | succ n ih =>
          intro jj hi9
          have k9 := ih (jj + 1) (by omega)
          have hi8 : jj < nh := by omega
          refine V_iload (i := 4) dX5_houseOfRank_15 rfl ?_
          refine V_aload_n (i := 0) dX5_houseOfRank_17 rfl rfl ?_
          refine V_getf fl_X5_46 dX5_houseOfRank_18 (hp5 hA (by omega)) rfl ?_
          refine V_icmp_ge (tgt := 43) dX5_houseOfRank_21 (by decide) (fun h21 => by first | exact absurd h21 (by rw [h1]; exact nI_ge (by omega) (by omega)) | exact absurd (by rw [h1]; exact nI_ge (by omega) (by omega)) h21) (fun _ => ?_)
          refine V_aload_n (i := 0) dX5_houseOfRank_24 rfl rfl ?_
          refine V_iload (i := 4) dX5_houseOfRank_25 rfl ?_
          refine V_iload_n (i := 2) dX5_houseOfRank_27 rfl rfl ?_
          refine Cv1_2 (d := 3) cv_X5_105 dX5_houseOfRank_28 (t_X5_isAhead hA hk h1 hn (by omega) (by omega)) (hp5 hA (by omega)) rfl rfl (Nat.le_of_ble_eq_true rfl) ⟨Nat.le_refl _, Nat.le_refl _⟩ (by decide) ⟨Nat.le_of_ble_eq_true rfl, Nat.le_of_ble_eq_true rfl⟩ ?_
          refine V_if_eq (tgt := 37) dX5_houseOfRank_31 (by decide) (fun h31 => ?_) (fun h31 => ?_)
          · refine V_iinc (i := 4) dX5_houseOfRank_37 rfl (inc1 _) (by decide) ?_
            refine V_goto (tgt := 15) dX5_houseOfRank_40 (by decide) ?_
            first | exact V.fin [1, 2, 3, 4, 0] rfl rfl k9 | (rw [show sm (fun j => bi (S_ahead (σ.1 5 k) j i)) (jj + 1) = sm (fun j => bi (S_ahead (σ.1 5 k) j i)) jj from by rw [sm, bi_0.mp h31]; exact Int32.add_zero _] at k9; exact V.fin [1, 2, 3, 4, 0] rfl rfl k9)
          · refine V_iinc (i := 3) dX5_houseOfRank_34 rfl (show _ = sm (fun j => bi (S_ahead (σ.1 5 k) j i)) (jj + 1) from by rw [sm, bi_1.mp h31]; rfl) (by decide) ?_
            refine V_iinc (i := 4) dX5_houseOfRank_37 rfl (inc1 _) (by decide) ?_
            refine V_goto (tgt := 15) dX5_houseOfRank_40 (by decide) ?_
            first | exact V.fin [2, 3, 4, 1, 0] rfl rfl k9 | (rw [show sm (fun j => bi (S_ahead (σ.1 5 k) j i)) (jj + 1) = sm (fun j => bi (S_ahead (σ.1 5 k) j i)) jj from by rw [sm, bi_0.mp h31]; exact Int32.add_zero _] at k9; exact V.fin [2, 3, 4, 1, 0] rfl rfl k9)
      refine V_iload_n (i := 2) dX5_houseOfRank_2 rfl rfl ?_
      refine V_aload_n (i := 0) dX5_houseOfRank_3 rfl rfl ?_
      refine V_getf fl_X5_46 dX5_houseOfRank_4 (hp5 hA (by omega)) rfl ?_
      refine V_icmp_ge (tgt := 56) dX5_houseOfRank_7 (by decide) (fun h7 => by first | exact absurd h7 (by rw [h1]; exact nI_ge (by omega) (by omega)) | exact absurd (by rw [h1]; exact nI_ge (by omega) (by omega)) h7) (fun _ => ?_)
      refine V_iconst (v := 0) dX5_houseOfRank_10 (by decide) ?_
      refine V_istore_n (i := 3) dX5_houseOfRank_11 rfl (by decide) ?_
      refine V_iconst (v := nI 0) dX5_houseOfRank_12 (by decide) ?_
      refine V_istore (i := 4) dX5_houseOfRank_13 (by decide) ?_
      exact V.fin [2, 3, 4, 1, 0] rfl rfl (inner nh 0 (by omega))
  refine V_iconst (v := nI 0) dX5_houseOfRank_0 (by decide) ?_
  refine V_istore_n (i := 2) dX5_houseOfRank_1 rfl (by decide) ?_
  exact V.fin [1, 2, 0] rfl rfl (loop nh 0 (by omega) rfl)

set_option maxHeartbeats 4000000 in
set_option maxRecDepth 100000 in
theorem t_X5_beginDay {D : va_G} {s0 : State} {l : Launch} {B : Nat} {A : AT} {σ : Sg} (hA : AOK B A) {k nh nc : Nat} (hk : k < 11) (h1 : σ.1 5 k 1 = nI nh) (hn : nh ≤ 8) (h2 : σ.1 5 k 2 = nI nc) (hm : nc ≤ 4) : Tri D s0 l yX5_beginDay cX5_beginDay 3 (none) 1 0 0 [.ref (A 5 k 0)] (HP A σ) (fun r G' => r = none ∧ G' = HP A (row σ 5 k (S_day (σ.1 5 k) nh nc))) noX := by
  refine Tri.ofV (own := RX5) (mn := "beginDay") (by decide +kernel) rfl rfl (Nat.le_of_ble_eq_true rfl) ?_
  have loopC : ∀ n i : Nat, i + n = nc → V D s0 RX5 "beginDay" cX5_beginDay 3 (none) [] l (rmd 1 0 0) (Zm D s0 0 0 (fun r G' => r = none ∧ G' = HP A (row σ 5 k (S_day (σ.1 5 k) nh nc))) noX) 66 [(0, .ref (A 5 k 0)), (2, .int (nI i))] [] (HP A (row σ 5 k (S_dayc (S_dayh (up (σ.1 5 k) 0 (σ.1 5 k 0 + 1)) (S_new (up (σ.1 5 k) 0 (σ.1 5 k 0 + 1))) nh) i))) 0 0 := by
    intro n
    induction n with
    | zero =>
      intro i hi9
      obtain rfl : nc = i := by omega
      refine V_iload_n (i := 2) dX5_beginDay_66 rfl rfl ?_
      refine V_aload_n (i := 0) dX5_beginDay_67 rfl rfl ?_
      refine V_getf fl_X5_49 dX5_beginDay_68 (hp5 hA (by omega)) rfl ?_
      refine V_icmp_ge (tgt := 89) dX5_beginDay_71 (by decide) (fun _ => ?_) (fun h71 => by first | exact absurd (by rw [row_at, S_dayc_lo (by decide), S_dayh_lo (by decide), up_ne (by decide), h2]; exact nI_le (Nat.le_refl _) (by omega)) h71 | exact absurd h71 (by rw [row_at, S_dayc_lo (by decide), S_dayh_lo (by decide), up_ne (by decide), h2]; exact nI_le (Nat.le_refl _) (by omega)))
      refine V_vret dX5_beginDay_89 rfl (Nat.le_of_ble_eq_true rfl) (Nat.le_of_ble_eq_true rfl) ?_
      exact ⟨rfl, rfl⟩
    | succ n ih =>
      intro i hi9
      have k9 := ih (i + 1) (by omega)
      have hi8 : i < nc := by omega
      refine V_iload_n (i := 2) dX5_beginDay_66 rfl rfl ?_
      refine V_aload_n (i := 0) dX5_beginDay_67 rfl rfl ?_
      refine V_getf fl_X5_49 dX5_beginDay_68 (hp5 hA (by omega)) rfl ?_
      refine V_icmp_ge (tgt := 89) dX5_beginDay_71 (by decide) (fun h71 => by first | exact absurd h71 (by rw [row_at, S_dayc_lo (by decide), S_dayh_lo (by decide), up_ne (by decide), h2]; exact nI_ge (by omega) (by omega)) | exact absurd (by rw [row_at, S_dayc_lo (by decide), S_dayh_lo (by decide), up_ne (by decide), h2]; exact nI_ge (by omega) (by omega)) h71) (fun _ => ?_)
      refine V_aload_n (i := 0) dX5_beginDay_74 rfl rfl ?_
      refine V_getf fl_X5_19 dX5_beginDay_75 (hp5 hA (by omega)) rfl ?_
      refine V_iload_n (i := 2) dX5_beginDay_78 rfl rfl ?_
      refine V_aald9 dX5_beginDay_79 (hp7 hA hk) rfl rfl (by omega) (by decide) rfl ?_
      refine Cv0_0 (d := 1) cv_X5_87 dX5_beginDay_80 (t_X0_beginDay hA hk (by omega)) (hp10 hA (by omega) (by omega)) rfl rfl (Nat.le_of_ble_eq_true rfl) ⟨Nat.le_refl _, Nat.le_refl _⟩ (by decide) ⟨Nat.le_of_ble_eq_true rfl, Nat.le_of_ble_eq_true rfl⟩ ?_
      refine V_iinc (i := 2) dX5_beginDay_83 rfl (inc1 _) (by decide) ?_
      refine V_goto (tgt := 66) dX5_beginDay_86 (by decide) ?_
      refine V.fin [1, 0] rfl (congrArg (HP A) ?_) k9
      simp only [w3_row, row_row, row_at]
      rfl
  have loopH : ∀ n i : Nat, i + n = nh → V D s0 RX5 "beginDay" cX5_beginDay 3 (none) [] l (rmd 1 0 0) (Zm D s0 0 0 (fun r G' => r = none ∧ G' = HP A (row σ 5 k (S_day (σ.1 5 k) nh nc))) noX) 28 [(0, .ref (A 5 k 0)), (1, .int (bi (S_new (up (σ.1 5 k) 0 (σ.1 5 k 0 + 1))))), (2, .int (nI i))] [] (HP A (row σ 5 k (S_dayh (up (σ.1 5 k) 0 (σ.1 5 k 0 + 1)) (S_new (up (σ.1 5 k) 0 (σ.1 5 k 0 + 1))) i))) 0 0 := by
    intro n
    induction n with
    | zero =>
      intro i hi9
      obtain rfl : nh = i := by omega
      refine V_iload_n (i := 2) dX5_beginDay_28 rfl rfl ?_
      refine V_aload_n (i := 0) dX5_beginDay_29 rfl rfl ?_
      refine V_getf fl_X5_46 dX5_beginDay_30 (hp5 hA (by omega)) rfl ?_
      refine V_icmp_ge (tgt := 64) dX5_beginDay_33 (by decide) (fun _ => ?_) (fun h33 => by first | exact absurd (by rw [row_at, S_dayh_lo (by decide), up_ne (by decide), h1]; exact nI_le (Nat.le_refl _) (by omega)) h33 | exact absurd h33 (by rw [row_at, S_dayh_lo (by decide), up_ne (by decide), h1]; exact nI_le (Nat.le_refl _) (by omega)))
      refine V_iconst (v := nI 0) dX5_beginDay_64 (by decide) ?_
      refine V_istore_n (i := 2) dX5_beginDay_65 rfl (by decide) ?_
      exact V.fin [1, 0] rfl rfl (loopC nc 0 (by omega))
    | succ n ih =>
      intro i hi9
      have k9 := ih (i + 1) (by omega)
      have hi8 : i < nh := by omega
      refine V_iload_n (i := 2) dX5_beginDay_28 rfl rfl ?_
      refine V_aload_n (i := 0) dX5_beginDay_29 rfl rfl ?_
      refine V_getf fl_X5_46 dX5_beginDay_30 (hp5 hA (by omega)) rfl ?_
      refine V_icmp_ge (tgt := 64) dX5_beginDay_33 (by decide) (fun h33 => by first | exact absurd h33 (by rw [row_at, S_dayh_lo (by decide), up_ne (by decide), h1]; exact nI_ge (by omega) (by omega)) | exact absurd (by rw [row_at, S_dayh_lo (by decide), up_ne (by decide), h1]; exact nI_ge (by omega) (by omega)) h33) (fun _ => ?_)
      refine V_aload_n (i := 0) dX5_beginDay_36 rfl rfl ?_
      refine V_getf fl_X5_11 dX5_beginDay_37 (hp5 hA (by omega)) rfl ?_
      refine V_iload_n (i := 2) dX5_beginDay_40 rfl rfl ?_
      refine V_aald9 dX5_beginDay_41 (hp6 hA hk) rfl rfl (by omega) (by decide) rfl ?_
      refine Cv0_0 (d := 1) cv_X5_81 dX5_beginDay_42 (t_X3_beginDay hA hk (by omega)) (hp9 hA (by omega) (by omega)) rfl rfl (Nat.le_of_ble_eq_true rfl) ⟨Nat.le_refl _, Nat.le_refl _⟩ (by decide) ⟨Nat.le_of_ble_eq_true rfl, Nat.le_of_ble_eq_true rfl⟩ ?_
      refine V_iload_n (i := 1) dX5_beginDay_45 rfl rfl ?_
      refine V_if_eq (tgt := 58) dX5_beginDay_46 (by decide) (fun h46 => ?_) (fun h46 => ?_)
      · refine V_iinc (i := 2) dX5_beginDay_58 rfl (inc1 _) (by decide) ?_
        refine V_goto (tgt := 28) dX5_beginDay_61 (by decide) ?_
        first
          | (refine V.fin [1, 2, 0] rfl (congrArg (HP A) ?_) k9; simp only [row_row, row_at]; rw [S_dayh, if_pos (bi_1.mp h46)])
          | (refine V.fin [1, 2, 0] rfl (congrArg (HP A) ?_) k9; simp only [row_row, row_at]; rw [S_dayh, if_neg (by rw [bi_0.mp h46]; decide)])
      · refine V_aload_n (i := 0) dX5_beginDay_49 rfl rfl ?_
        refine V_getf fl_X5_11 dX5_beginDay_50 (hp5 hA (by omega)) rfl ?_
        refine V_iload_n (i := 2) dX5_beginDay_53 rfl rfl ?_
        refine V_aald9 dX5_beginDay_54 (hp6 hA hk) rfl rfl (by omega) (by decide) rfl ?_
        refine Cv0_0 (d := 1) cv_X5_84 dX5_beginDay_55 (t_X3_beginWeek hA hk (by omega)) (hp9 hA (by omega) (by omega)) rfl rfl (Nat.le_of_ble_eq_true rfl) ⟨Nat.le_refl _, Nat.le_refl _⟩ (by decide) ⟨Nat.le_of_ble_eq_true rfl, Nat.le_of_ble_eq_true rfl⟩ ?_
        refine V_iinc (i := 2) dX5_beginDay_58 rfl (inc1 _) (by decide) ?_
        refine V_goto (tgt := 28) dX5_beginDay_61 (by decide) ?_
        first
          | (refine V.fin [1, 2, 0] rfl (congrArg (HP A) ?_) k9; simp only [row_row, row_at]; rw [S_dayh, if_pos (bi_1.mp h46)])
          | (refine V.fin [1, 2, 0] rfl (congrArg (HP A) ?_) k9; simp only [row_row, row_at]; rw [S_dayh, if_neg (by rw [bi_0.mp h46]; decide)])
  refine V_aload_n (i := 0) dX5_beginDay_0 rfl rfl ?_
  refine V_dup dX5_beginDay_1 rfl ?_
  refine V_getf fl_X5_52 dX5_beginDay_2 (hp5 hA (by omega)) rfl ?_
  refine V_iconst (v := 1) dX5_beginDay_5 (by decide) ?_
  refine V_iadd dX5_beginDay_6 ?_
  refine VP_5_5 fl_X5_52 dX5_beginDay_7 hA (by omega) ?_
  refine V_aload_n (i := 0) dX5_beginDay_10 rfl rfl ?_
  refine V_getf fl_X5_52 dX5_beginDay_11 (hp5 hA (by omega)) rfl ?_
  refine V_bipush (v := 7) dX5_beginDay_14 (by decide) ?_
  refine V_irem dX5_beginDay_16 (by decide) ?_
  refine V_if_ne (tgt := 24) dX5_beginDay_17 (by decide) (fun h17 => ?_) (fun h17 => ?_)
  · refine V_iconst (v := 0) dX5_beginDay_24 (by decide) ?_
    refine V_istore_n (i := 1) dX5_beginDay_25 rfl (by decide) ?_
    refine V_iconst (v := nI 0) dX5_beginDay_26 (by decide) ?_
    refine V_istore_n (i := 2) dX5_beginDay_27 rfl (by decide) ?_
    first
      | (refine V.fin [2, 1, 0] ?_ (congrArg (HP A) (w3_row _ _ _ _ _)) (loopH nh 0 (by omega)); rw [show bi (S_new (up (σ.1 5 k) 0 (σ.1 5 k 0 + 1))) = 1 from by rw [S_new, up_at, decide_eq_true (by have q := h17; rw [w3_eq] at q; exact q)]; rfl]; rfl)
      | (refine V.fin [2, 1, 0] ?_ (congrArg (HP A) (w3_row _ _ _ _ _)) (loopH nh 0 (by omega)); rw [show bi (S_new (up (σ.1 5 k) 0 (σ.1 5 k 0 + 1))) = 0 from by rw [S_new, up_at, decide_eq_false (by have q := h17; rw [w3_eq] at q; exact q)]; rfl]; rfl)
  · refine V_iconst (v := 1) dX5_beginDay_20 (by decide) ?_
    refine V_goto (tgt := 25) dX5_beginDay_21 (by decide) ?_
    refine V_istore_n (i := 1) dX5_beginDay_25 rfl (by decide) ?_
    refine V_iconst (v := nI 0) dX5_beginDay_26 (by decide) ?_
    refine V_istore_n (i := 2) dX5_beginDay_27 rfl (by decide) ?_
    first
      | (refine V.fin [2, 1, 0] ?_ (congrArg (HP A) (w3_row _ _ _ _ _)) (loopH nh 0 (by omega)); rw [show bi (S_new (up (σ.1 5 k) 0 (σ.1 5 k 0 + 1))) = 1 from by rw [S_new, up_at, decide_eq_true (by have q := h17; rw [w3_eq] at q; exact q)]; rfl]; rfl)
      | (refine V.fin [2, 1, 0] ?_ (congrArg (HP A) (w3_row _ _ _ _ _)) (loopH nh 0 (by omega)); rw [show bi (S_new (up (σ.1 5 k) 0 (σ.1 5 k 0 + 1))) = 0 from by rw [S_new, up_at, decide_eq_false (by have q := h17; rw [w3_eq] at q; exact q)]; rfl]; rfl)

set_option maxHeartbeats 4000000 in
set_option maxRecDepth 100000 in
theorem t_X5_copyFrom {D : va_G} {s0 : State} {l : Launch} {B : Nat} {A : AT} {σ : Sg} (hA : AOK B A) {k k2 : Nat} (hk : k < 11) (hk2 : k2 < 11) (hn : k ≠ k2) (hb : ∀ i, i < 8 → σ.1 5 k2 (hx i 7) = 0 ∨ σ.1 5 k2 (hx i 7) = 1) : Tri D s0 l yX5_copyFrom cX5_copyFrom 3 (none) 1 0 0 [.ref (A 5 k 0), .ref (A 5 k2 0)] (HP A σ) (fun r G' => r = none ∧ G' = HP A (cp σ k k2 (fun j => decide (j < 102)))) noX := by
  refine Tri.ofV (own := RX5) (mn := "copyFrom") (by decide +kernel) rfl rfl (Nat.le_of_ble_eq_true rfl) ?_
  have loopW : ∀ n i : Nat, i + n = 4 → V D s0 RX5 "copyFrom" cX5_copyFrom 3 (none) [] l (rmd 1 0 0) (Zm D s0 0 0 (fun r G' => r = none ∧ G' = HP A (cp σ k k2 (fun j => decide (j < 102)))) noX) 59 [(0, .ref (A 5 k 0)), (1, .ref (A 5 k2 0)), (2, .int (nI i))] [] (HP A (cp σ k k2 (fun j => decide ((14 ≤ j ∧ j < 102) ∨ (10 ≤ j ∧ j < 10 + i))))) 0 0 := by
    intro n
    induction n with
    | zero =>
      intro i hi9
      obtain rfl : 4 = i := by omega
      refine V_iload_n (i := 2) dX5_copyFrom_59 rfl rfl ?_
      refine V_iconst (v := nI 4) dX5_copyFrom_60 (by decide) ?_
      refine V_icmp_ge (tgt := 82) dX5_copyFrom_61 (by decide) (fun _ => ?_) (fun h61 => by first | exact absurd (nI_le (Nat.le_refl 4) (by omega)) h61 | exact absurd h61 (nI_le (Nat.le_refl 4) (by omega)))
      refine V_aload_n (i := 0) dX5_copyFrom_82 rfl rfl ?_
      refine V_aload_n (i := 1) dX5_copyFrom_83 rfl rfl ?_
      refine V_getf fl_X5_46 dX5_copyFrom_84 (hp5 hA (by omega)) rfl ?_
      refine VP_5_3 fl_X5_46 dX5_copyFrom_87 hA (by omega) ?_
      refine V_aload_n (i := 0) dX5_copyFrom_90 rfl rfl ?_
      refine V_aload_n (i := 1) dX5_copyFrom_91 rfl rfl ?_
      refine V_getf fl_X5_49 dX5_copyFrom_92 (hp5 hA (by omega)) rfl ?_
      refine VP_5_4 fl_X5_49 dX5_copyFrom_95 hA (by omega) ?_
      refine V_aload_n (i := 0) dX5_copyFrom_98 rfl rfl ?_
      refine V_aload_n (i := 1) dX5_copyFrom_99 rfl rfl ?_
      refine V_getf fl_X5_52 dX5_copyFrom_100 (hp5 hA (by omega)) rfl ?_
      refine VP_5_5 fl_X5_52 dX5_copyFrom_103 hA (by omega) ?_
      refine V_aload_n (i := 0) dX5_copyFrom_106 rfl rfl ?_
      refine V_aload_n (i := 1) dX5_copyFrom_107 rfl rfl ?_
      refine V_getf fl_X5_55 dX5_copyFrom_108 (hp5 hA (by omega)) rfl ?_
      refine VP_5_6 fl_X5_55 dX5_copyFrom_111 hA (by omega) ?_
      refine V_aload_n (i := 0) dX5_copyFrom_114 rfl rfl ?_
      refine V_aload_n (i := 1) dX5_copyFrom_115 rfl rfl ?_
      refine V_getf fl_X5_58 dX5_copyFrom_116 (hp5 hA (by omega)) rfl ?_
      refine VP_5_7 fl_X5_58 dX5_copyFrom_119 hA (by omega) ?_
      refine V_aload_n (i := 0) dX5_copyFrom_122 rfl rfl ?_
      refine V_aload_n (i := 1) dX5_copyFrom_123 rfl rfl ?_
      refine V_getf fl_X5_27 dX5_copyFrom_124 (hp5 hA (by omega)) rfl ?_
      refine VP_5_8 fl_X5_27 dX5_copyFrom_127 hA (by omega) ?_
      refine V_aload_n (i := 0) dX5_copyFrom_130 rfl rfl ?_
      refine V_aload_n (i := 1) dX5_copyFrom_131 rfl rfl ?_
      refine V_getf fl_X5_31 dX5_copyFrom_132 (hp5 hA (by omega)) rfl ?_
      refine VP_5_9 fl_X5_31 dX5_copyFrom_135 hA (by omega) ?_
      refine V_aload_n (i := 0) dX5_copyFrom_138 rfl rfl ?_
      refine V_aload_n (i := 1) dX5_copyFrom_139 rfl rfl ?_
      refine V_getf fl_X5_34 dX5_copyFrom_140 (hp5 hA (by omega)) rfl ?_
      refine VP_5_10 fl_X5_34 dX5_copyFrom_143 hA (by omega) ?_
      refine V_aload_n (i := 0) dX5_copyFrom_146 rfl rfl ?_
      refine V_aload_n (i := 1) dX5_copyFrom_147 rfl rfl ?_
      refine V_getf fl_X5_61 dX5_copyFrom_148 (hp5 hA (by omega)) rfl ?_
      refine VP_5_11 fl_X5_61 dX5_copyFrom_151 hA (by omega) ?_
      refine V_aload_n (i := 0) dX5_copyFrom_154 rfl rfl ?_
      refine V_aload_n (i := 1) dX5_copyFrom_155 rfl rfl ?_
      refine V_getf fl_X5_64 dX5_copyFrom_156 (hp5 hA (by omega)) rfl ?_
      refine VP_5_12 fl_X5_64 dX5_copyFrom_159 hA (by omega) ?_
      refine V_vret dX5_copyFrom_162 rfl (Nat.le_of_ble_eq_true rfl) (Nat.le_of_ble_eq_true rfl) ?_
      refine ⟨rfl, congrArg (HP A) ?_⟩
      simp only [w3_k hn, cp_src hn, cp_0, cp_w3, cp_cp hn]
      refine cp_ext (fun j => Bool.eq_iff_iff.mpr ?_)
      simp only [Bool.or_eq_true, beq_iff_eq, decide_eq_true_eq]
      omega
    | succ n ih =>
      intro i hi9
      have k9 := ih (i + 1) (by omega)
      have hi8 : i < 4 := by omega
      refine V_iload_n (i := 2) dX5_copyFrom_59 rfl rfl ?_
      refine V_iconst (v := nI 4) dX5_copyFrom_60 (by decide) ?_
      refine V_icmp_ge (tgt := 82) dX5_copyFrom_61 (by decide) (fun h61 => by first | exact absurd h61 (nI_ge (by omega) (by omega)) | exact absurd (nI_ge (by omega) (by omega)) h61) (fun _ => ?_)
      refine V_aload_n (i := 0) dX5_copyFrom_64 rfl rfl ?_
      refine V_getf fl_X5_23 dX5_copyFrom_65 (hp5 hA (by omega)) rfl ?_
      refine V_iload_n (i := 2) dX5_copyFrom_68 rfl rfl ?_
      refine V_aload_n (i := 1) dX5_copyFrom_69 rfl rfl ?_
      refine V_getf fl_X5_23 dX5_copyFrom_70 (hp5 hA (by omega)) rfl ?_
      refine V_iload_n (i := 2) dX5_copyFrom_73 rfl rfl ?_
      refine V_iald9 dX5_copyFrom_74 (hp8 hA hk2) rfl (by omega) (by decide) (arn_at (by omega)) ?_
      refine VA_8 dX5_copyFrom_75 hA (by omega) rfl (by omega) ?_
      refine V_iinc (i := 2) dX5_copyFrom_76 rfl (inc1 _) (by decide) ?_
      refine V_goto (tgt := 59) dX5_copyFrom_79 (by decide) ?_
      refine V.fin [1, 2, 0] rfl (congrArg (HP A) ?_) k9
      simp only [w3_k hn, cp_src hn, cp_0, cp_w3, cp_cp hn]
      refine cp_ext (fun j => Bool.eq_iff_iff.mpr ?_)
      simp only [hx, kx, Bool.or_eq_true, beq_iff_eq, decide_eq_true_eq]
      try omega
  have loopC : ∀ n i : Nat, i + n = 4 → V D s0 RX5 "copyFrom" cX5_copyFrom 3 (none) [] l (rmd 1 0 0) (Zm D s0 0 0 (fun r G' => r = none ∧ G' = HP A (cp σ k k2 (fun j => decide (j < 102)))) noX) 31 [(0, .ref (A 5 k 0)), (1, .ref (A 5 k2 0)), (2, .int (nI i))] [] (HP A (cp σ k k2 (fun j => decide (14 ≤ j ∧ j < 86 + 4 * i)))) 0 0 := by
    intro n
    induction n with
    | zero =>
      intro i hi9
      obtain rfl : 4 = i := by omega
      refine V_iload_n (i := 2) dX5_copyFrom_31 rfl rfl ?_
      refine V_iconst (v := nI 4) dX5_copyFrom_32 (by decide) ?_
      refine V_icmp_ge (tgt := 57) dX5_copyFrom_33 (by decide) (fun _ => ?_) (fun h33 => by first | exact absurd (nI_le (Nat.le_refl 4) (by omega)) h33 | exact absurd h33 (nI_le (Nat.le_refl 4) (by omega)))
      refine V_iconst (v := nI 0) dX5_copyFrom_57 (by decide) ?_
      refine V_istore_n (i := 2) dX5_copyFrom_58 rfl (by decide) ?_
      refine V.fin [1, 2, 0] rfl (congrArg (HP A) ?_) (loopW 4 0 (by omega))
      refine cp_ext (fun j => Bool.eq_iff_iff.mpr ?_)
      simp only [decide_eq_true_eq]
      try omega
    | succ n ih =>
      intro i hi9
      have k9 := ih (i + 1) (by omega)
      have hi8 : i < 4 := by omega
      refine V_iload_n (i := 2) dX5_copyFrom_31 rfl rfl ?_
      refine V_iconst (v := nI 4) dX5_copyFrom_32 (by decide) ?_
      refine V_icmp_ge (tgt := 57) dX5_copyFrom_33 (by decide) (fun h33 => by first | exact absurd h33 (nI_ge (by omega) (by omega)) | exact absurd (nI_ge (by omega) (by omega)) h33) (fun _ => ?_)
      refine V_aload_n (i := 0) dX5_copyFrom_36 rfl rfl ?_
      refine V_getf fl_X5_19 dX5_copyFrom_37 (hp5 hA (by omega)) rfl ?_
      refine V_iload_n (i := 2) dX5_copyFrom_40 rfl rfl ?_
      refine V_aald9 dX5_copyFrom_41 (hp7 hA hk) rfl rfl (by omega) (by decide) rfl ?_
      refine V_aload_n (i := 1) dX5_copyFrom_42 rfl rfl ?_
      refine V_getf fl_X5_19 dX5_copyFrom_43 (hp5 hA (by omega)) rfl ?_
      refine V_iload_n (i := 2) dX5_copyFrom_46 rfl rfl ?_
      refine V_aald9 dX5_copyFrom_47 (hp7 hA hk2) rfl rfl (by omega) (by decide) rfl ?_
      refine Cv0_1 (d := 1) cv_X5_43 dX5_copyFrom_48 (t_X0_copyFrom hA hk hk2 (by omega) hn) (hp10 hA (by omega) (by omega)) rfl rfl (Nat.le_of_ble_eq_true rfl) ⟨Nat.le_refl _, Nat.le_refl _⟩ (by decide) ⟨Nat.le_of_ble_eq_true rfl, Nat.le_of_ble_eq_true rfl⟩ ?_
      refine V_iinc (i := 2) dX5_copyFrom_51 rfl (inc1 _) (by decide) ?_
      refine V_goto (tgt := 31) dX5_copyFrom_54 (by decide) ?_
      refine V.fin [1, 2, 0] rfl (congrArg (HP A) ?_) k9
      simp only [w3_k hn, cp_src hn, cp_0, cp_w3, cp_cp hn]
      refine cp_ext (fun j => Bool.eq_iff_iff.mpr ?_)
      simp only [hx, kx, Bool.or_eq_true, beq_iff_eq, decide_eq_true_eq]
      try omega
  have loopH : ∀ n i : Nat, i + n = 8 → V D s0 RX5 "copyFrom" cX5_copyFrom 3 (none) [] l (rmd 1 0 0) (Zm D s0 0 0 (fun r G' => r = none ∧ G' = HP A (cp σ k k2 (fun j => decide (j < 102)))) noX) 2 [(0, .ref (A 5 k 0)), (1, .ref (A 5 k2 0)), (2, .int (nI i))] [] (HP A (cp σ k k2 (fun j => decide (14 ≤ j ∧ j < 14 + 9 * i)))) 0 0 := by
    intro n
    induction n with
    | zero =>
      intro i hi9
      obtain rfl : 8 = i := by omega
      refine V_iload_n (i := 2) dX5_copyFrom_2 rfl rfl ?_
      refine V_bipush (v := nI 8) dX5_copyFrom_3 (by decide) ?_
      refine V_icmp_ge (tgt := 29) dX5_copyFrom_5 (by decide) (fun _ => ?_) (fun h5 => by first | exact absurd (nI_le (Nat.le_refl 8) (by omega)) h5 | exact absurd h5 (nI_le (Nat.le_refl 8) (by omega)))
      refine V_iconst (v := nI 0) dX5_copyFrom_29 (by decide) ?_
      refine V_istore_n (i := 2) dX5_copyFrom_30 rfl (by decide) ?_
      refine V.fin [1, 2, 0] rfl (congrArg (HP A) ?_) (loopC 4 0 (by omega))
      refine cp_ext (fun j => Bool.eq_iff_iff.mpr ?_)
      simp only [decide_eq_true_eq]
      try omega
    | succ n ih =>
      intro i hi9
      have k9 := ih (i + 1) (by omega)
      have hi8 : i < 8 := by omega
      refine V_iload_n (i := 2) dX5_copyFrom_2 rfl rfl ?_
      refine V_bipush (v := nI 8) dX5_copyFrom_3 (by decide) ?_
      refine V_icmp_ge (tgt := 29) dX5_copyFrom_5 (by decide) (fun h5 => by first | exact absurd h5 (nI_ge (by omega) (by omega)) | exact absurd (nI_ge (by omega) (by omega)) h5) (fun _ => ?_)
      refine V_aload_n (i := 0) dX5_copyFrom_8 rfl rfl ?_
      refine V_getf fl_X5_11 dX5_copyFrom_9 (hp5 hA (by omega)) rfl ?_
      refine V_iload_n (i := 2) dX5_copyFrom_12 rfl rfl ?_
      refine V_aald9 dX5_copyFrom_13 (hp6 hA hk) rfl rfl (by omega) (by decide) rfl ?_
      refine V_aload_n (i := 1) dX5_copyFrom_14 rfl rfl ?_
      refine V_getf fl_X5_11 dX5_copyFrom_15 (hp5 hA (by omega)) rfl ?_
      refine V_iload_n (i := 2) dX5_copyFrom_18 rfl rfl ?_
      refine V_aald9 dX5_copyFrom_19 (hp6 hA hk2) rfl rfl (by omega) (by decide) rfl ?_
      refine Cv0_1 (d := 1) cv_X5_39 dX5_copyFrom_20 (t_X3_copyFrom hA hk hk2 (by omega) hn (by rw [cp_src hn]; exact hb i (by omega))) (hp9 hA (by omega) (by omega)) rfl rfl (Nat.le_of_ble_eq_true rfl) ⟨Nat.le_refl _, Nat.le_refl _⟩ (by decide) ⟨Nat.le_of_ble_eq_true rfl, Nat.le_of_ble_eq_true rfl⟩ ?_
      refine V_iinc (i := 2) dX5_copyFrom_23 rfl (inc1 _) (by decide) ?_
      refine V_goto (tgt := 2) dX5_copyFrom_26 (by decide) ?_
      refine V.fin [1, 2, 0] rfl (congrArg (HP A) ?_) k9
      simp only [w3_k hn, cp_src hn, cp_0, cp_w3, cp_cp hn]
      refine cp_ext (fun j => Bool.eq_iff_iff.mpr ?_)
      simp only [hx, kx, Bool.or_eq_true, beq_iff_eq, decide_eq_true_eq]
      try omega
  refine V_iconst (v := nI 0) dX5_copyFrom_0 (by decide) ?_
  refine V_istore_n (i := 2) dX5_copyFrom_1 rfl (by decide) ?_
  refine V.fin [1, 2, 0] rfl (congrArg (HP A) ?_) (loopH 8 0 (by omega))
  refine cp_none.symm.trans (cp_ext (fun j => Bool.eq_iff_iff.mpr ?_))
  simp only [decide_eq_true_eq]
  constructor
  · intro h; cases h
  · intro h; omega
