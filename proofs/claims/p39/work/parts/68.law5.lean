/-! the law: lay -/

set_option maxHeartbeats 4000000 in
set_option maxRecDepth 100000 in
theorem t_L_lay {D : va_G} {s0 : State} {l : Launch} {B : Nat} {A : AT} {σ : Sg} (hA : AOK B A) (hl : l.stackTraces = false) {b L : Nat} {xs : Nat → Int32} (hT : va_T .int b L (fun j => .int (xs j)) (bA s0) s0 s0.heap) (hL : L ≤ 260) (hF : FK σ 0 0 0) (hw : Lw (σ.1 5 0)) : Tri D s0 l yL_lay cL_lay 4 (none) 5 14 84 [.ref (A 0 0 0), .ref b] (HP A σ) (fun r G' => r = none ∧ ∃ (σ' : Sg) (nh nc : Nat), G' = HP A σ' ∧ FK σ' 20 nh nc ∧ 2 ≤ nh ∧ 1 ≤ nc) noX := by
  refine Tri.ofV (own := RL) (mn := "lay") (by decide +kernel) rfl rfl (Nat.le_of_ble_eq_true rfl) ?_
  have fin : ∀ (σ : Sg) (nh nc : Nat), FK σ 11 nh nc → Lw (σ.1 5 0) → 2 ≤ nh → 1 ≤ nc → V D s0 RL "lay" cL_lay 4 (none) [] l (rmd 5 14 84) (Zm D s0 14 84 (fun r G' => r = none ∧ ∃ (σ' : Sg) (nh nc : Nat), G' = HP A σ' ∧ FK σ' 20 nh nc ∧ 2 ≤ nh ∧ 1 ≤ nc) noX) 98 [(0, .ref (A 0 0 0)), (1, .ref b)] [] (HP A σ) 11 66 := by
    intro σ nh nc hF hw hh2 hc1
    refine V_aload_n (i := 0) dL_lay_98 rfl rfl ?_
    refine V_bipush (v := (nI 7)) dL_lay_99 (by decide) ?_
    refine V_aload_n (i := 1) dL_lay_101 rfl rfl ?_
    refine V_bipush (v := (nI 20)) dL_lay_102 (by decide) ?_
    refine V_bipush (v := (nI 8)) dL_lay_104 (by decide) ?_
    refine V_callsE (d := 5) cs_L_15 dL_lay_106 (t_L_pick hA hT hL rfl (by omega) (rfl : nI 8 = nI 8) (by decide) (by decide)) rfl rfl (Nat.le_of_ble_eq_true rfl) ⟨Nat.le_refl _, Nat.le_refl _⟩ (by decide) ⟨by show _ ≤ 14; omega, by show _ ≤ 84; omega⟩ (fun v9 h9 => ?_)
    obtain ⟨v, hv, rfl⟩ := h9
    refine V_iadd dL_lay_109 ?_
    rw [nI_add]
    refine V_callL (d := 5) cv_L_32 dL_lay_110 (l_X7_days hA hl hF (by omega) hw (x := 7 + v) (by omega) (by omega)) (hp0 hA) rfl rfl rfl rfl (Nat.le_of_ble_eq_true rfl) ⟨Nat.le_refl _, Nat.le_refl _⟩ (by decide) ⟨by show _ ≤ 14; omega, by show _ ≤ 84; omega⟩ (fun σ v1 hF hw => ?_)
    refine V_aload_n (i := 0) dL_lay_113 rfl rfl ?_
    refine V_iconst (v := (nI 5)) dL_lay_114 (by decide) ?_
    refine V_aload_n (i := 1) dL_lay_115 rfl rfl ?_
    refine V_bipush (v := (nI 21)) dL_lay_116 (by decide) ?_
    refine V_bipush (v := (nI 25)) dL_lay_118 (by decide) ?_
    refine V_callsE (d := 5) cs_L_15 dL_lay_120 (t_L_pick hA hT hL rfl (by omega) (rfl : nI 25 = nI 25) (by decide) (by decide)) rfl rfl (Nat.le_of_ble_eq_true rfl) ⟨Nat.le_refl _, Nat.le_refl _⟩ (by decide) ⟨by show _ ≤ 14; omega, by show _ ≤ 84; omega⟩ (fun v9 h9 => ?_)
    obtain ⟨v, hv, rfl⟩ := h9
    refine V_iadd dL_lay_123 ?_
    rw [nI_add]
    refine V_callL (d := 5) cv_L_35 dL_lay_124 (l_X7_load hA hl hF (by omega) hw (x := 5 + v) (by omega) (by omega)) (hp0 hA) rfl rfl rfl rfl (Nat.le_of_ble_eq_true rfl) ⟨Nat.le_refl _, Nat.le_refl _⟩ (by decide) ⟨by show _ ≤ 14; omega, by show _ ≤ 84; omega⟩ (fun σ v1 hF hw => ?_)
    refine V_iadd dL_lay_127 ?_
    refine V_istore_n (i := 2) dL_lay_128 rfl (by decide) ?_
    refine V_aload_n (i := 0) dL_lay_129 rfl rfl ?_
    refine V_iconst (v := (nI 1)) dL_lay_130 (by decide) ?_
    refine V_aload_n (i := 1) dL_lay_131 rfl rfl ?_
    refine V_bipush (v := (nI 22)) dL_lay_132 (by decide) ?_
    refine V_aload_n (i := 0) dL_lay_134 rfl rfl ?_
    refine V_iconst (v := (nI 1)) dL_lay_135 (by decide) ?_
    obtain ⟨-, -, ⟨h1, hn⟩, -⟩ := id hF
    refine Cv1_1 (d := 5) cv_L_38 dL_lay_136 (q_X7_account hA h1 hn (q := 1) (by decide)) (hp0 hA) rfl rfl (Nat.le_of_ble_eq_true rfl) ⟨Nat.le_refl _, Nat.le_refl _⟩ (by decide) ⟨by show _ ≤ 14; omega, by show _ ≤ 84; omega⟩ ?_
    refine V_callsE (d := 5) cs_L_15 dL_lay_139 (t_L_pick hA hT hL rfl (by omega) (show S_num (σ.1 5 0) nh 1 = nI nh from h1) (by omega) (by omega)) rfl rfl (Nat.le_of_ble_eq_true rfl) ⟨Nat.le_refl _, Nat.le_refl _⟩ (by decide) ⟨by show _ ≤ 14; omega, by show _ ≤ 84; omega⟩ (fun v9 h9 => ?_)
    obtain ⟨v, hv, rfl⟩ := h9
    refine V_iadd dL_lay_142 ?_
    rw [nI_add]
    refine V_callL (d := 5) cv_L_41 dL_lay_143 (l_X7_drive hA hl hF (by omega) hw (x := 1 + v) (by omega) (by omega)) (hp0 hA) rfl rfl rfl rfl (Nat.le_of_ble_eq_true rfl) ⟨Nat.le_refl _, Nat.le_refl _⟩ (by decide) ⟨by show _ ≤ 14; omega, by show _ ≤ 84; omega⟩ (fun σ v1 hF hw => ?_)
    refine V_istore_n (i := 2) dL_lay_146 rfl (by decide) ?_
    refine V_vret dL_lay_147 rfl (Nat.le_of_ble_eq_true rfl) (Nat.le_of_ble_eq_true rfl) ?_
    exact ⟨rfl, σ, nh, nc, rfl, ⟨hF.1, hF.2.mono (by omega)⟩, hh2, hc1⟩
  have lc : ∀ (nh : Nat), 2 ≤ nh → ∀ (n k : Nat) (σ : Sg), k + n = 3 → FK σ (8 + k) nh k → Lw (σ.1 5 0) → V D s0 RL "lay" cL_lay 4 (none) [] l (rmd 5 14 84) (Zm D s0 14 84 (fun r G' => r = none ∧ ∃ (σ' : Sg) (nh nc : Nat), G' = HP A σ' ∧ FK σ' 20 nh nc ∧ 2 ≤ nh ∧ 1 ≤ nc) noX) 62 [(0, .ref (A 0 0 0)), (1, .ref b), (3, .int (nI k))] [] (HP A σ) (8 + k) (48 + 6 * k) := by
    intro nh hh2 n
    induction n with
    | zero =>
      intro k σ hk hF hw
      obtain rfl : k = 3 := by omega
      refine V_iload_n (i := 3) dL_lay_62 rfl rfl ?_
      refine V_iconst (v := (nI 1)) dL_lay_63 (by decide) ?_
      refine V_aload_n (i := 1) dL_lay_64 rfl rfl ?_
      refine V_bipush (v := (nI 16)) dL_lay_65 (by decide) ?_
      refine V_iconst (v := (nI 3)) dL_lay_67 (by decide) ?_
      refine V_callsE (d := 5) cs_L_15 dL_lay_68 (t_L_pick hA hT hL rfl (by omega) (rfl : nI 3 = nI 3) (by decide) (by decide)) rfl rfl (Nat.le_of_ble_eq_true rfl) ⟨Nat.le_refl _, Nat.le_refl _⟩ (by decide) ⟨by show _ ≤ 14; omega, by show _ ≤ 84; omega⟩ (fun v9 h9 => ?_)
      obtain ⟨v, hv, rfl⟩ := h9
      refine V_iadd dL_lay_71 ?_
      refine V_icmp_ge (tgt := 98) dL_lay_72 (by decide) (fun _ => ?_) (fun h72 => by first | exact absurd (by rw [nI_add]; exact nI_le (by omega) (by omega)) h72 | exact absurd h72 (by rw [nI_add]; exact nI_le (by omega) (by omega)))
      exact V.fin [0, 1] rfl rfl (V.wid (by omega) (by omega) (fin σ nh 3 ⟨hF.1, hF.2.mono (by omega)⟩ hw hh2 (by omega)))
    | succ n ih =>
      intro k σ hk hF hw
      refine V_iload_n (i := 3) dL_lay_62 rfl rfl ?_
      refine V_iconst (v := (nI 1)) dL_lay_63 (by decide) ?_
      refine V_aload_n (i := 1) dL_lay_64 rfl rfl ?_
      refine V_bipush (v := (nI 16)) dL_lay_65 (by decide) ?_
      refine V_iconst (v := (nI 3)) dL_lay_67 (by decide) ?_
      refine V_callsE (d := 5) cs_L_15 dL_lay_68 (t_L_pick hA hT hL rfl (by omega) (rfl : nI 3 = nI 3) (by decide) (by decide)) rfl rfl (Nat.le_of_ble_eq_true rfl) ⟨Nat.le_refl _, Nat.le_refl _⟩ (by decide) ⟨by show _ ≤ 14; omega, by show _ ≤ 84; omega⟩ (fun v9 h9 => ?_)
      obtain ⟨v, hv, rfl⟩ := h9
      refine V_iadd dL_lay_71 ?_
      refine V_icmp_ge (tgt := 98) dL_lay_72 (by decide) (fun h72 => ?_) (fun h72 => ?_)
      · have hk1 : 1 ≤ k := by
          rw [nI_add, nI_leI (by omega) (by omega)] at h72
          omega
        exact V.fin [0, 1] rfl rfl (V.wid (by omega) (by omega) (fin σ nh k ⟨hF.1, hF.2.mono (by omega)⟩ hw hh2 hk1))
      · have hk1 : k < 3 := by omega
        refine V_aload_n (i := 0) dL_lay_75 rfl rfl ?_
        refine V_iconst (v := (nI 1)) dL_lay_76 (by decide) ?_
        refine V_aload_n (i := 1) dL_lay_77 rfl rfl ?_
        refine V_bipush (v := (nI 17)) dL_lay_78 (by decide) ?_
        refine V_iload_n (i := 3) dL_lay_80 rfl rfl ?_
        refine V_iadd dL_lay_81 ?_
        refine V_bipush (v := (nI 9)) dL_lay_82 (by decide) ?_
        refine V_callsE (d := 5) cs_L_15 dL_lay_84 (t_L_pick hA hT hL (nI_add 17 k) (by omega) (rfl : nI 9 = nI 9) (by decide) (by decide)) rfl rfl (Nat.le_of_ble_eq_true rfl) ⟨Nat.le_refl _, Nat.le_refl _⟩ (by decide) ⟨by show _ ≤ 14; omega, by show _ ≤ 84; omega⟩ (fun v9 h9 => ?_)
        obtain ⟨v, hv, rfl⟩ := h9
        refine V_iadd dL_lay_87 ?_
        rw [nI_add]
        refine V_callL (d := 5) cv_L_28 dL_lay_88 (l_X7_carrier hA hl hF (by omega) hw (x := 1 + v) (by omega) (by omega) (by omega)) (hp0 hA) rfl rfl rfl rfl (Nat.le_of_ble_eq_true rfl) ⟨Nat.le_refl _, Nat.le_refl _⟩ (by decide) ⟨by show _ ≤ 14; omega, by show _ ≤ 84; omega⟩ (fun σ v1 hF hw => ?_)
        refine V_istore_n (i := 2) dL_lay_91 rfl (by decide) ?_
        refine V_iinc (i := 3) dL_lay_92 rfl (inc1 _) (by decide) ?_
        refine V_goto (tgt := 62) dL_lay_95 (by decide) ?_
        refine V.fin [2, 3, 0] rfl rfl (V.wid (by omega) (by omega) (ih (k + 1) σ (by omega) hF hw))
  have lh : ∀ (n k : Nat) (σ : Sg), k + n = 4 → FK σ (2 * k) k 0 → Lw (σ.1 5 0) → V D s0 RL "lay" cL_lay 4 (none) [] l (rmd 5 14 84) (Zm D s0 14 84 (fun r G' => r = none ∧ ∃ (σ' : Sg) (nh nc : Nat), G' = HP A σ' ∧ FK σ' 20 nh nc ∧ 2 ≤ nh ∧ 1 ≤ nc) noX) 4 [(0, .ref (A 0 0 0)), (1, .ref b), (3, .int (nI k))] [] (HP A σ) (2 * k) (12 * k) := by
    intro n
    induction n with
    | zero =>
      intro k σ hk hF hw
      obtain rfl : k = 4 := by omega
      refine V_iload_n (i := 3) dL_lay_4 rfl rfl ?_
      refine V_iconst (v := (nI 2)) dL_lay_5 (by decide) ?_
      refine V_aload_n (i := 1) dL_lay_6 rfl rfl ?_
      refine V_iconst (v := (nI 0)) dL_lay_7 (by decide) ?_
      refine V_iconst (v := (nI 3)) dL_lay_8 (by decide) ?_
      refine V_callsE (d := 5) cs_L_15 dL_lay_9 (t_L_pick hA hT hL rfl (by omega) (rfl : nI 3 = nI 3) (by decide) (by decide)) rfl rfl (Nat.le_of_ble_eq_true rfl) ⟨Nat.le_refl _, Nat.le_refl _⟩ (by decide) ⟨by show _ ≤ 14; omega, by show _ ≤ 84; omega⟩ (fun v9 h9 => ?_)
      obtain ⟨v, hv, rfl⟩ := h9
      refine V_iadd dL_lay_12 ?_
      refine V_icmp_ge (tgt := 60) dL_lay_13 (by decide) (fun _ => ?_) (fun h13 => by first | exact absurd (by rw [nI_add]; exact nI_le (by omega) (by omega)) h13 | exact absurd h13 (by rw [nI_add]; exact nI_le (by omega) (by omega)))
      refine V_iconst (v := (nI 0)) dL_lay_60 (by decide) ?_
      refine V_istore_n (i := 3) dL_lay_61 rfl (by decide) ?_
      exact V.fin [1, 2, 0] rfl rfl (V.wid (by omega) (by omega) (lc 4 (by omega) 3 0 σ (by omega) ⟨hF.1, hF.2.mono (by omega)⟩ hw))
    | succ n ih =>
      intro k σ hk hF hw
      refine V_iload_n (i := 3) dL_lay_4 rfl rfl ?_
      refine V_iconst (v := (nI 2)) dL_lay_5 (by decide) ?_
      refine V_aload_n (i := 1) dL_lay_6 rfl rfl ?_
      refine V_iconst (v := (nI 0)) dL_lay_7 (by decide) ?_
      refine V_iconst (v := (nI 3)) dL_lay_8 (by decide) ?_
      refine V_callsE (d := 5) cs_L_15 dL_lay_9 (t_L_pick hA hT hL rfl (by omega) (rfl : nI 3 = nI 3) (by decide) (by decide)) rfl rfl (Nat.le_of_ble_eq_true rfl) ⟨Nat.le_refl _, Nat.le_refl _⟩ (by decide) ⟨by show _ ≤ 14; omega, by show _ ≤ 84; omega⟩ (fun v9 h9 => ?_)
      obtain ⟨v, hv, rfl⟩ := h9
      refine V_iadd dL_lay_12 ?_
      refine V_icmp_ge (tgt := 60) dL_lay_13 (by decide) (fun h13 => ?_) (fun h13 => ?_)
      · have hk2 : 2 ≤ k := by
          rw [nI_add, nI_leI (by omega) (by omega)] at h13
          omega
        refine V_iconst (v := (nI 0)) dL_lay_60 (by decide) ?_
        refine V_istore_n (i := 3) dL_lay_61 rfl (by decide) ?_
        exact V.fin [1, 2, 0] rfl rfl (V.wid (by omega) (by omega) (lc k hk2 3 0 σ (by omega) ⟨hF.1, hF.2.mono (by omega)⟩ hw))
      · have hk2 : k < 4 := by omega
        refine V_aload_n (i := 0) dL_lay_16 rfl rfl ?_
        refine V_aload_n (i := 1) dL_lay_17 rfl rfl ?_
        refine V_iconst (v := (nI 1)) dL_lay_18 (by decide) ?_
        refine V_iload_n (i := 3) dL_lay_19 rfl rfl ?_
        refine V_iadd dL_lay_20 ?_
        refine V_bipush (v := (nI 10)) dL_lay_21 (by decide) ?_
        refine V_callsE (d := 5) cs_L_15 dL_lay_23 (t_L_pick hA hT hL (nI_add 1 k) (by omega) (rfl : nI 10 = nI 10) (by decide) (by decide)) rfl rfl (Nat.le_of_ble_eq_true rfl) ⟨Nat.le_refl _, Nat.le_refl _⟩ (by decide) ⟨by show _ ≤ 14; omega, by show _ ≤ 84; omega⟩ (fun v9 h9 => ?_)
        obtain ⟨f, hf, rfl⟩ := h9
        refine V_aload_n (i := 1) dL_lay_26 rfl rfl ?_
        refine V_bipush (v := (nI 6)) dL_lay_27 (by decide) ?_
        refine V_iload_n (i := 3) dL_lay_29 rfl rfl ?_
        refine V_iadd dL_lay_30 ?_
        refine V_iconst (v := (nI 3)) dL_lay_31 (by decide) ?_
        refine V_callsE (d := 5) cs_L_15 dL_lay_32 (t_L_pick hA hT hL (nI_add 6 k) (by omega) (rfl : nI 3 = nI 3) (by decide) (by decide)) rfl rfl (Nat.le_of_ble_eq_true rfl) ⟨Nat.le_refl _, Nat.le_refl _⟩ (by decide) ⟨by show _ ≤ 14; omega, by show _ ≤ 84; omega⟩ (fun v9 h9 => ?_)
        obtain ⟨g, hg, rfl⟩ := h9
        refine V_callL (d := 5) cv_L_19 dL_lay_35 (l_X7_house hA hl hF (by omega) hw (f := f) (g := g) (by omega) (by omega) (by omega)) (hp0 hA) rfl rfl rfl rfl (Nat.le_of_ble_eq_true rfl) ⟨Nat.le_refl _, Nat.le_refl _⟩ (by decide) ⟨by show _ ≤ 14; omega, by show _ ≤ 84; omega⟩ (fun σ v1 hF hw => ?_)
        refine V_aload_n (i := 0) dL_lay_38 rfl rfl ?_
        refine V_iload_n (i := 3) dL_lay_39 rfl rfl ?_
        refine V_aload_n (i := 1) dL_lay_40 rfl rfl ?_
        refine V_bipush (v := (nI 11)) dL_lay_41 (by decide) ?_
        refine V_iload_n (i := 3) dL_lay_43 rfl rfl ?_
        refine V_iadd dL_lay_44 ?_
        refine V_iconst (v := (nI 5)) dL_lay_45 (by decide) ?_
        refine V_callsE (d := 5) cs_L_15 dL_lay_46 (t_L_pick hA hT hL (nI_add 11 k) (by omega) (rfl : nI 5 = nI 5) (by decide) (by decide)) rfl rfl (Nat.le_of_ble_eq_true rfl) ⟨Nat.le_refl _, Nat.le_refl _⟩ (by decide) ⟨by show _ ≤ 14; omega, by show _ ≤ 84; omega⟩ (fun v9 h9 => ?_)
        obtain ⟨v, hv, rfl⟩ := h9
        refine V_callL (d := 5) cv_L_25 dL_lay_49 (l_X7_order hA hl hF (by omega) hw (k := k) (g := v) (by omega) (by omega)) (hp0 hA) rfl rfl rfl rfl (Nat.le_of_ble_eq_true rfl) ⟨Nat.le_refl _, Nat.le_refl _⟩ (by decide) ⟨by show _ ≤ 14; omega, by show _ ≤ 84; omega⟩ (fun σ v1 hF hw => ?_)
        refine V_iadd dL_lay_52 ?_
        refine V_istore_n (i := 2) dL_lay_53 rfl (by decide) ?_
        refine V_iinc (i := 3) dL_lay_54 rfl (inc1 _) (by decide) ?_
        refine V_goto (tgt := 4) dL_lay_57 (by decide) ?_
        refine V.fin [2, 3, 0] rfl rfl (V.wid (by omega) (by omega) (ih (k + 1) σ (by omega) hF hw))
  refine V_iconst (v := (nI 0)) dL_lay_0 (by decide) ?_
  refine V_istore_n (i := 2) dL_lay_1 rfl (by decide) ?_
  refine V_iconst (v := (nI 0)) dL_lay_2 (by decide) ?_
  refine V_istore_n (i := 3) dL_lay_3 rfl (by decide) ?_
  exact V.fin [2, 3, 0] rfl rfl (lh 4 0 σ (by omega) hF hw)

