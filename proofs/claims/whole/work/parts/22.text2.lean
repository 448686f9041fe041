/-! the class: its texts, the commands in them -/
def mkF (j : Nat) : Int32 := nI (mkN j)
def fdF (j : Nat) : Int32 := nI (fdN j)
def sdF (j : Nat) : Int32 := nI (sdN j)

theorem S0.mkF {s0 : State} (h : S0 s0) : ∃ t, TabB s0 RX7 "MARKS" "[C" .char 8 mkF t := h.tab (by decide) (List.mem_of_getElem? (i := 1018) (by decide +kernel)) (List.mem_of_getElem? (i := 46) (by decide +kernel)) (fl_mem 12 (by decide +kernel)) (fl_mem 13 (by decide +kernel)) (fun j hj => fl_mem (14 + j) (by
  rcases (by omega : j = 0 ∨ j = 1 ∨ j = 2 ∨ j = 3 ∨ j = 4 ∨ j = 5 ∨ j = 6 ∨ j = 7) with rfl | rfl | rfl | rfl | rfl | rfl | rfl | rfl <;> decide +kernel))
theorem fn_51 : Cond.fieldLinkNest RX1 51 RX7 "MARKS" "[C" RX7 ∈ lw_tbl := (List.mem_of_getElem? (i := 1017) (by decide +kernel))
theorem S0.fdF {s0 : State} (h : S0 s0) : ∃ t, TabB s0 RX7 "FIRST_DIGITS" "[I" .int 8 fdF t := h.tab (by decide) (List.mem_of_getElem? (i := 1020) (by decide +kernel)) (List.mem_of_getElem? (i := 46) (by decide +kernel)) (fl_mem 23 (by decide +kernel)) (fl_mem 24 (by decide +kernel)) (fun j hj => fl_mem (25 + j) (by
  rcases (by omega : j = 0 ∨ j = 1 ∨ j = 2 ∨ j = 3 ∨ j = 4 ∨ j = 5 ∨ j = 6 ∨ j = 7) with rfl | rfl | rfl | rfl | rfl | rfl | rfl | rfl <;> decide +kernel))
theorem fn_54 : Cond.fieldLinkNest RX1 54 RX7 "FIRST_DIGITS" "[I" RX7 ∈ lw_tbl := (List.mem_of_getElem? (i := 1019) (by decide +kernel))
theorem S0.sdF {s0 : State} (h : S0 s0) : ∃ t, TabB s0 RX7 "SECOND_DIGITS" "[I" .int 8 sdF t := h.tab (by decide) (List.mem_of_getElem? (i := 1034) (by decide +kernel)) (List.mem_of_getElem? (i := 46) (by decide +kernel)) (fl_mem 34 (by decide +kernel)) (fl_mem 35 (by decide +kernel)) (fun j hj => fl_mem (36 + j) (by
  rcases (by omega : j = 0 ∨ j = 1 ∨ j = 2 ∨ j = 3 ∨ j = 4 ∨ j = 5 ∨ j = 6 ∨ j = 7) with rfl | rfl | rfl | rfl | rfl | rfl | rfl | rfl <;> decide +kernel))
theorem fn_64 : Cond.fieldLinkNest RX1 64 RX7 "SECOND_DIGITS" "[I" RX7 ∈ lw_tbl := (List.mem_of_getElem? (i := 1033) (by decide +kernel))
def cmS (σ : Sg) (p c k : Nat) (a b : Int32) : Sg := w3 (w3 (w3 (w3 (nrS σ p b) 13 0 c (nI k)) 14 0 c a) 15 0 c b) 11 0 1 (nI (c + 1))
def CPost (A : AT) (σ : Sg) (c : Nat) (C : Bool × Nat × Nat × Int32 × Int32) (r : Option Value) (G' : GH) : Prop := (∃ w : Int32, C.1 = false ∧ r = some (.int 0) ∧ G' = HP A (nrS σ C.2.1 w)) ∨ (C.1 = true ∧ r = some (.int 1) ∧ G' = HP A (cmS σ C.2.1 c C.2.2.1 C.2.2.2.1 C.2.2.2.2))
theorem cp_no {A : AT} {σ : Sg} {c q k : Nat} {a b w : Int32} {C : Bool × Nat × Nat × Int32 × Int32} (e : C = (false, q, k, a, b)) : CPost A σ c C (some (.int 0)) (HP A (nrS σ q w)) := by
  subst e
  exact Or.inl ⟨w, rfl, rfl, rfl⟩
theorem cp_yes {A : AT} {σ : Sg} {c q k : Nat} {a b : Int32} {C : Bool × Nat × Nat × Int32 × Int32} (e : C = (true, q, k, a, b)) : CPost A σ c C (some (.int 1)) (HP A (cmS σ q c k a b)) := by
  subst e
  exact Or.inr ⟨rfl, rfl, rfl⟩
theorem idx_256 : ∀ ch, ch < 256 → kIx (nI ch) = 8 → fnd letF (nI ch).toInt8.toInt32 8 0 = -1 := by
  have h : (List.range 256).all (fun ch => !decide (kIx (nI ch) = 8) || decide (fnd letF (nI ch).toInt8.toInt32 8 0 = -1)) = true := by decide +kernel
  intro ch hc hk
  have q := List.all_eq_true.mp h ch (List.mem_range.mpr hc)
  rw [decide_eq_true hk] at q
  simpa using q
theorem idx_none {ch : Nat} (hc : ch < 65536) (hk : kIx (nI ch) = 8) : (if 0 ≤ nI ch ∧ nI ch ≤ 255 then fnd letF (nI ch).toInt8.toInt32 8 0 else -1) = -1 := by
  by_cases h : 0 ≤ nI ch ∧ nI ch ≤ 255
  · rw [if_pos h]
    have q := h.2
    rw [show (255 : Int32) = nI 255 from rfl, nI_leI (by omega) (by decide)] at q
    exact idx_256 ch (by omega) hk
  · rw [if_neg h]
theorem kIx_cases (x : Int32) : x = 103 ∨ x = 108 ∨ x = 99 ∨ x = 98 ∨ x = 109 ∨ x = 112 ∨ x = 115 ∨ x = 100 ∨ kIx x = 8 := by
  unfold kIx
  repeat (split; · simp_all)
  simp_all

set_option maxHeartbeats 4000000 in
set_option maxRecDepth 100000 in
theorem t_X1_isCommandRead {D : va_G} {s0 : State} {l : Launch} {B : Nat} {A : AT} {σ : Sg} (hA : AOK B A) {n p c : Nat} {v : Int32} (hn : σ.1 11 0 0 = nI n) (hn6 : n ≤ 60) (hc : σ.1 11 0 1 = nI c) (hc30 : c < 30) (hpn : p < 100) (hch : ∀ j, j < n → ∃ ch, ch < 65536 ∧ σ.1 12 0 j = nI ch) : Tri D s0 l yX1_isCommandRead cX1_isCommandRead 3 ((some .boolean)) 5 0 0 [.ref (A 11 0 0)] (HP A (nrS σ p v)) (CPost A σ c (pCmd (σ.1 12 0) n p)) noX := by
  refine tr_fr (fun h0 => ?_)
  obtain ⟨sa, sv, hR, hs⟩ := h0.let_X1
  obtain ⟨tM, hM⟩ := h0.mkF
  obtain ⟨tF, hF⟩ := h0.fdF
  obtain ⟨tS, hSd⟩ := h0.sdF
  refine Tri.ofV (own := RX1) (mn := "isCommandRead") (by decide +kernel) rfl rfl (Nat.le_of_ble_eq_true rfl) ?_
  by_cases hp : p < n
  · obtain ⟨ch, hlt, hx8⟩ := hch p hp
    rcases kIx_cases (σ.1 12 0 p) with hx9 | hx9 | hx9 | hx9 | hx9 | hx9 | hx9 | hx9 | hk8
    · have hpk : pK (σ.1 12 0) n p = 0 := by rw [pK, if_pos hp, hx9]; rfl
      refine V_aload_n (i := 0) dX1_isCommandRead_0 rfl rfl ?_
      refine V_getf fl_X1_25 dX1_isCommandRead_1 (hp11 hA) rfl ?_
      refine V_aload_n (i := 0) dX1_isCommandRead_4 rfl rfl ?_
      refine V_getf fl_X1_36 dX1_isCommandRead_5 (hp11 hA) rfl ?_
      refine V_icmp_ge (tgt := 28) dX1_isCommandRead_8 (by decide) (fun h8 => by first | exact absurd h8 ((by rw [nr_2, nr_f (by decide), hn]; exact nI_ge (by omega) (by omega))) | exact absurd ((by rw [nr_2, nr_f (by decide), hn]; exact nI_ge (by omega) (by omega))) h8) (fun _ => ?_)
      refine V_ldcS hR dX1_isCommandRead_11 ?_
      refine V_aload_n (i := 0) dX1_isCommandRead_13 rfl rfl ?_
      refine V_getf fl_X1_9 dX1_isCommandRead_14 (hp11 hA) rfl ?_
      refine V_aload_n (i := 0) dX1_isCommandRead_17 rfl rfl ?_
      refine V_getf fl_X1_25 dX1_isCommandRead_18 (hp11 hA) rfl ?_
      refine V_cald9 dX1_isCommandRead_21 (hp12 hA) nr_2 (by omega) (by decide) (congrArg Value.int ((congrFun (congrFun (nr_a (by decide)) 0) _).trans hx9)) ?_
      refine Cb1_1 (d := 5) cv_X1_45 dX1_isCommandRead_22 (t_J0_indexOf_0f7a4 hs (by decide) (by decide)) hs.1 (Nat.le_of_ble_eq_true rfl) ⟨Nat.le_refl _, Nat.le_refl _⟩ (by decide) ⟨Nat.le_of_ble_eq_true rfl, Nat.le_of_ble_eq_true rfl⟩ ?_
      rw [show (if (0 : Int32) ≤ 103 ∧ (103 : Int32) ≤ 255 then fnd letF (103 : Int32).toInt8.toInt32 8 0 else -1) = nI 0 from by decide +kernel]
      refine V_goto (tgt := 29) dX1_isCommandRead_25 (by decide) ?_
      refine V_istore_n (i := 1) dX1_isCommandRead_29 rfl (by decide) ?_
      refine V_iload_n (i := 1) dX1_isCommandRead_30 rfl rfl ?_
      refine V_if_lt (tgt := 51) dX1_isCommandRead_31 (by decide) (fun h31 => by first | exact absurd h31 ((by decide)) | exact absurd ((by decide)) h31) (fun _ => ?_)
      refine V_iload_n (i := 1) dX1_isCommandRead_34 rfl rfl ?_
      refine V_gstN hM.1 fn_51 dX1_isCommandRead_35 ?_
      refine V_tlen hM.2 dX1_isCommandRead_38 ?_
      refine V_icmp_ge (tgt := 51) dX1_isCommandRead_39 (by decide) (fun h39 => by first | exact absurd h39 (nI_ge (by decide) (by decide)) | exact absurd (nI_ge (by decide) (by decide)) h39) (fun _ => ?_)
      refine V_aload_n (i := 0) dX1_isCommandRead_42 rfl rfl ?_
      refine V_getf fl_X1_29 dX1_isCommandRead_43 (hp11 hA) rfl ?_
      refine V_bipush (v := nI 30) dX1_isCommandRead_46 (by decide) ?_
      refine V_icmp_lt (tgt := 53) dX1_isCommandRead_48 (by decide) (fun _ => ?_) (fun h48 => by first | exact absurd ((by rw [nr_f (by decide), hc]; exact nI_lt hc30 (by decide))) h48 | exact absurd h48 ((by rw [nr_f (by decide), hc]; exact nI_lt hc30 (by decide))))
      refine V_aload_n (i := 0) dX1_isCommandRead_53 rfl rfl ?_
      refine V_dup dX1_isCommandRead_54 rfl ?_
      refine V_getf fl_X1_25 dX1_isCommandRead_55 (hp11 hA) rfl ?_
      refine V_iconst (v := 1) dX1_isCommandRead_58 (by decide) ?_
      refine V_iadd dX1_isCommandRead_59 ?_
      refine VNp (q := p + 1) fl_X1_25 dX1_isCommandRead_60 hA (by rw [nr_2]; exact nI_1 p) ?_
      refine V_aload_n (i := 0) dX1_isCommandRead_63 rfl rfl ?_
      refine V_gstN hF.1 fn_54 dX1_isCommandRead_64 ?_
      refine V_iload_n (i := 1) dX1_isCommandRead_67 rfl rfl ?_
      refine V_ti hF.2 (j := 0) rfl (by decide) (by decide) dX1_isCommandRead_68 ?_
      rw [show fdF 0 = nI 1 from rfl]
      refine Cv1_1 (d := 5) cv_X1_57 dX1_isCommandRead_69 (t_X1_isNumberRead hA hn hn6 (by omega) (by decide)) (hp11 hA) rfl rfl (Nat.le_of_ble_eq_true rfl) ⟨Nat.le_refl _, Nat.le_refl _⟩ (by decide) ⟨Nat.le_of_ble_eq_true rfl, Nat.le_of_ble_eq_true rfl⟩ ?_
      refine V_if_ne (tgt := 77) dX1_isCommandRead_72 (by decide) (fun h72 => ?_) (fun h72 => ?_)
      · replace h72 := bi_1.mp h72
        have hb1 := pNum_le (t := (σ.1 12 0)) (n := n) 1 (p + 1) 0
        refine V_aload_n (i := 0) dX1_isCommandRead_77 rfl rfl ?_
        refine V_getf fl_X1_61 dX1_isCommandRead_78 (hp11 hA) rfl ?_
        rw [nr_3]
        refine V_istore_n (i := 2) dX1_isCommandRead_81 rfl (by decide) ?_
        refine V_gstN hM.1 fn_51 dX1_isCommandRead_82 ?_
        refine V_iload_n (i := 1) dX1_isCommandRead_85 rfl rfl ?_
        refine V_tc hM.2 (j := 0) rfl (by decide) (by decide) dX1_isCommandRead_86 ?_
        rw [show mkF 0 = 0 from rfl]
        refine V_if_eq (tgt := 104) dX1_isCommandRead_87 (by decide) (fun _ => ?_) (fun h87 => by first | exact absurd ((by decide)) h87 | exact absurd h87 ((by decide)))
        refine V_aload_n (i := 0) dX1_isCommandRead_104 rfl rfl ?_
        refine V_gstN hSd.1 fn_64 dX1_isCommandRead_105 ?_
        refine V_iload_n (i := 1) dX1_isCommandRead_108 rfl rfl ?_
        refine V_ti hSd.2 (j := 0) rfl (by decide) (by decide) dX1_isCommandRead_109 ?_
        rw [show sdF 0 = nI 0 from rfl]
        refine Cv1_1 (d := 5) cv_X1_57 dX1_isCommandRead_110 (t_X1_isNumberRead hA hn hn6 (by omega) (by decide)) (hp11 hA) rfl rfl (Nat.le_of_ble_eq_true rfl) ⟨Nat.le_refl _, Nat.le_refl _⟩ (by decide) ⟨Nat.le_of_ble_eq_true rfl, Nat.le_of_ble_eq_true rfl⟩ ?_
        refine V_if_ne (tgt := 118) dX1_isCommandRead_113 (by decide) (fun _ => ?_) (fun h113 => by first | exact absurd ((by simp [bi])) h113 | exact absurd h113 ((by simp [bi])))
        refine V_aload_n (i := 0) dX1_isCommandRead_118 rfl rfl ?_
        refine V_getf fl_X1_15 dX1_isCommandRead_119 (hp11 hA) rfl ?_
        refine V_aload_n (i := 0) dX1_isCommandRead_122 rfl rfl ?_
        refine V_getf fl_X1_29 dX1_isCommandRead_123 (hp11 hA) rfl ?_
        refine V_iload_n (i := 1) dX1_isCommandRead_126 rfl rfl ?_
        refine VA_13 dX1_isCommandRead_127 hA ((nr_f (by decide)).trans hc) (by omega) ?_
        refine V_aload_n (i := 0) dX1_isCommandRead_128 rfl rfl ?_
        refine V_getf fl_X1_19 dX1_isCommandRead_129 (hp11 hA) rfl ?_
        refine V_aload_n (i := 0) dX1_isCommandRead_132 rfl rfl ?_
        refine V_getf fl_X1_29 dX1_isCommandRead_133 (hp11 hA) rfl ?_
        refine V_iload_n (i := 2) dX1_isCommandRead_136 rfl rfl ?_
        refine VA_14 dX1_isCommandRead_137 hA ((w3_ne (by omega)).trans ((nr_f (by decide)).trans hc)) (by omega) ?_
        refine V_aload_n (i := 0) dX1_isCommandRead_138 rfl rfl ?_
        refine V_getf fl_X1_22 dX1_isCommandRead_139 (hp11 hA) rfl ?_
        refine V_aload_n (i := 0) dX1_isCommandRead_142 rfl rfl ?_
        refine V_getf fl_X1_29 dX1_isCommandRead_143 (hp11 hA) rfl ?_
        refine V_aload_n (i := 0) dX1_isCommandRead_146 rfl rfl ?_
        refine V_getf fl_X1_61 dX1_isCommandRead_147 (hp11 hA) rfl ?_
        rw [show ∀ (s : Sg) (x y : Int32) (i j p : Nat) (v : Int32), (w3 (w3 (nrS s p v) 13 0 i x) 14 0 j y).1 11 0 3 = v from fun s x y i j p v => (w3_ne (by omega)).trans ((w3_ne (by omega)).trans nr_3)]
        refine VA_15 dX1_isCommandRead_150 hA ((w3_ne (by omega)).trans ((w3_ne (by omega)).trans ((nr_f (by decide)).trans hc))) (by omega) ?_
        refine V_aload_n (i := 0) dX1_isCommandRead_151 rfl rfl ?_
        refine V_dup dX1_isCommandRead_152 rfl ?_
        refine V_getf fl_X1_29 dX1_isCommandRead_153 (hp11 hA) rfl ?_
        refine V_iconst (v := 1) dX1_isCommandRead_156 (by decide) ?_
        refine V_iadd dX1_isCommandRead_157 ?_
        rw [show ∀ (s : Sg) (x y z : Int32) (i j k p : Nat) (v : Int32), (w3 (w3 (w3 (nrS s p v) 13 0 i x) 14 0 j y) 15 0 k z).1 11 0 1 + 1 = s.1 11 0 1 + 1 from fun s x y z i j k p v => congrArg (· + 1) ((w3_ne (by omega)).trans ((w3_ne (by omega)).trans ((w3_ne (by omega)).trans (nr_f (by decide))))), hc, show nI c + 1 = nI (c + 1) from nI_1 c]
        refine VP_11_5 fl_X1_29 dX1_isCommandRead_158 hA ?_
        refine V_iconst (v := 1) dX1_isCommandRead_161 (by decide) ?_
        refine V_zret dX1_isCommandRead_162 rfl (by first | rfl | exact bi_n _) (Nat.le_of_ble_eq_true rfl) (Nat.le_of_ble_eq_true rfl) ?_
        refine cp_yes ?_
        first
          | (simp [pCmd, hpk, fdN, mkN, sdN, *]; done)
          | (simp_all [pCmd, fdN, mkN, sdN, pNum]; done)
          | (simp_all [pCmd, fdN, mkN, sdN]; rfl)
      · replace h72 := bi_0.mp h72
        refine V_iconst (v := 0) dX1_isCommandRead_75 (by decide) ?_
        refine V_zret dX1_isCommandRead_76 rfl (by first | rfl | exact bi_n _) (Nat.le_of_ble_eq_true rfl) (Nat.le_of_ble_eq_true rfl) ?_
        refine cp_no (k := 0) (a := 0) (b := 0) ?_
        first
          | (simp [pCmd, hpk, fdN, mkN, sdN, *]; done)
          | (simp_all [pCmd, fdN, mkN, sdN]; done)
    · have hpk : pK (σ.1 12 0) n p = 1 := by rw [pK, if_pos hp, hx9]; rfl
      refine V_aload_n (i := 0) dX1_isCommandRead_0 rfl rfl ?_
      refine V_getf fl_X1_25 dX1_isCommandRead_1 (hp11 hA) rfl ?_
      refine V_aload_n (i := 0) dX1_isCommandRead_4 rfl rfl ?_
      refine V_getf fl_X1_36 dX1_isCommandRead_5 (hp11 hA) rfl ?_
      refine V_icmp_ge (tgt := 28) dX1_isCommandRead_8 (by decide) (fun h8 => by first | exact absurd h8 ((by rw [nr_2, nr_f (by decide), hn]; exact nI_ge (by omega) (by omega))) | exact absurd ((by rw [nr_2, nr_f (by decide), hn]; exact nI_ge (by omega) (by omega))) h8) (fun _ => ?_)
      refine V_ldcS hR dX1_isCommandRead_11 ?_
      refine V_aload_n (i := 0) dX1_isCommandRead_13 rfl rfl ?_
      refine V_getf fl_X1_9 dX1_isCommandRead_14 (hp11 hA) rfl ?_
      refine V_aload_n (i := 0) dX1_isCommandRead_17 rfl rfl ?_
      refine V_getf fl_X1_25 dX1_isCommandRead_18 (hp11 hA) rfl ?_
      refine V_cald9 dX1_isCommandRead_21 (hp12 hA) nr_2 (by omega) (by decide) (congrArg Value.int ((congrFun (congrFun (nr_a (by decide)) 0) _).trans hx9)) ?_
      refine Cb1_1 (d := 5) cv_X1_45 dX1_isCommandRead_22 (t_J0_indexOf_0f7a4 hs (by decide) (by decide)) hs.1 (Nat.le_of_ble_eq_true rfl) ⟨Nat.le_refl _, Nat.le_refl _⟩ (by decide) ⟨Nat.le_of_ble_eq_true rfl, Nat.le_of_ble_eq_true rfl⟩ ?_
      rw [show (if (0 : Int32) ≤ 108 ∧ (108 : Int32) ≤ 255 then fnd letF (108 : Int32).toInt8.toInt32 8 0 else -1) = nI 1 from by decide +kernel]
      refine V_goto (tgt := 29) dX1_isCommandRead_25 (by decide) ?_
      refine V_istore_n (i := 1) dX1_isCommandRead_29 rfl (by decide) ?_
      refine V_iload_n (i := 1) dX1_isCommandRead_30 rfl rfl ?_
      refine V_if_lt (tgt := 51) dX1_isCommandRead_31 (by decide) (fun h31 => by first | exact absurd h31 ((by decide)) | exact absurd ((by decide)) h31) (fun _ => ?_)
      refine V_iload_n (i := 1) dX1_isCommandRead_34 rfl rfl ?_
      refine V_gstN hM.1 fn_51 dX1_isCommandRead_35 ?_
      refine V_tlen hM.2 dX1_isCommandRead_38 ?_
      refine V_icmp_ge (tgt := 51) dX1_isCommandRead_39 (by decide) (fun h39 => by first | exact absurd h39 (nI_ge (by decide) (by decide)) | exact absurd (nI_ge (by decide) (by decide)) h39) (fun _ => ?_)
      refine V_aload_n (i := 0) dX1_isCommandRead_42 rfl rfl ?_
      refine V_getf fl_X1_29 dX1_isCommandRead_43 (hp11 hA) rfl ?_
      refine V_bipush (v := nI 30) dX1_isCommandRead_46 (by decide) ?_
      refine V_icmp_lt (tgt := 53) dX1_isCommandRead_48 (by decide) (fun _ => ?_) (fun h48 => by first | exact absurd ((by rw [nr_f (by decide), hc]; exact nI_lt hc30 (by decide))) h48 | exact absurd h48 ((by rw [nr_f (by decide), hc]; exact nI_lt hc30 (by decide))))
      refine V_aload_n (i := 0) dX1_isCommandRead_53 rfl rfl ?_
      refine V_dup dX1_isCommandRead_54 rfl ?_
      refine V_getf fl_X1_25 dX1_isCommandRead_55 (hp11 hA) rfl ?_
      refine V_iconst (v := 1) dX1_isCommandRead_58 (by decide) ?_
      refine V_iadd dX1_isCommandRead_59 ?_
      refine VNp (q := p + 1) fl_X1_25 dX1_isCommandRead_60 hA (by rw [nr_2]; exact nI_1 p) ?_
      refine V_aload_n (i := 0) dX1_isCommandRead_63 rfl rfl ?_
      refine V_gstN hF.1 fn_54 dX1_isCommandRead_64 ?_
      refine V_iload_n (i := 1) dX1_isCommandRead_67 rfl rfl ?_
      refine V_ti hF.2 (j := 1) rfl (by decide) (by decide) dX1_isCommandRead_68 ?_
      rw [show fdF 1 = nI 2 from rfl]
      refine Cv1_1 (d := 5) cv_X1_57 dX1_isCommandRead_69 (t_X1_isNumberRead hA hn hn6 (by omega) (by decide)) (hp11 hA) rfl rfl (Nat.le_of_ble_eq_true rfl) ⟨Nat.le_refl _, Nat.le_refl _⟩ (by decide) ⟨Nat.le_of_ble_eq_true rfl, Nat.le_of_ble_eq_true rfl⟩ ?_
      refine V_if_ne (tgt := 77) dX1_isCommandRead_72 (by decide) (fun h72 => ?_) (fun h72 => ?_)
      · replace h72 := bi_1.mp h72
        have hb1 := pNum_le (t := (σ.1 12 0)) (n := n) 2 (p + 1) 0
        refine V_aload_n (i := 0) dX1_isCommandRead_77 rfl rfl ?_
        refine V_getf fl_X1_61 dX1_isCommandRead_78 (hp11 hA) rfl ?_
        rw [nr_3]
        refine V_istore_n (i := 2) dX1_isCommandRead_81 rfl (by decide) ?_
        refine V_gstN hM.1 fn_51 dX1_isCommandRead_82 ?_
        refine V_iload_n (i := 1) dX1_isCommandRead_85 rfl rfl ?_
        refine V_tc hM.2 (j := 1) rfl (by decide) (by decide) dX1_isCommandRead_86 ?_
        rw [show mkF 1 = 0 from rfl]
        refine V_if_eq (tgt := 104) dX1_isCommandRead_87 (by decide) (fun _ => ?_) (fun h87 => by first | exact absurd ((by decide)) h87 | exact absurd h87 ((by decide)))
        refine V_aload_n (i := 0) dX1_isCommandRead_104 rfl rfl ?_
        refine V_gstN hSd.1 fn_64 dX1_isCommandRead_105 ?_
        refine V_iload_n (i := 1) dX1_isCommandRead_108 rfl rfl ?_
        refine V_ti hSd.2 (j := 1) rfl (by decide) (by decide) dX1_isCommandRead_109 ?_
        rw [show sdF 1 = nI 0 from rfl]
        refine Cv1_1 (d := 5) cv_X1_57 dX1_isCommandRead_110 (t_X1_isNumberRead hA hn hn6 (by omega) (by decide)) (hp11 hA) rfl rfl (Nat.le_of_ble_eq_true rfl) ⟨Nat.le_refl _, Nat.le_refl _⟩ (by decide) ⟨Nat.le_of_ble_eq_true rfl, Nat.le_of_ble_eq_true rfl⟩ ?_
        refine V_if_ne (tgt := 118) dX1_isCommandRead_113 (by decide) (fun _ => ?_) (fun h113 => by first | exact absurd ((by simp [bi])) h113 | exact absurd h113 ((by simp [bi])))
        refine V_aload_n (i := 0) dX1_isCommandRead_118 rfl rfl ?_
        refine V_getf fl_X1_15 dX1_isCommandRead_119 (hp11 hA) rfl ?_
        refine V_aload_n (i := 0) dX1_isCommandRead_122 rfl rfl ?_
        refine V_getf fl_X1_29 dX1_isCommandRead_123 (hp11 hA) rfl ?_
        refine V_iload_n (i := 1) dX1_isCommandRead_126 rfl rfl ?_
        refine VA_13 dX1_isCommandRead_127 hA ((nr_f (by decide)).trans hc) (by omega) ?_
        refine V_aload_n (i := 0) dX1_isCommandRead_128 rfl rfl ?_
        refine V_getf fl_X1_19 dX1_isCommandRead_129 (hp11 hA) rfl ?_
        refine V_aload_n (i := 0) dX1_isCommandRead_132 rfl rfl ?_
        refine V_getf fl_X1_29 dX1_isCommandRead_133 (hp11 hA) rfl ?_
        refine V_iload_n (i := 2) dX1_isCommandRead_136 rfl rfl ?_
        refine VA_14 dX1_isCommandRead_137 hA ((w3_ne (by omega)).trans ((nr_f (by decide)).trans hc)) (by omega) ?_
        refine V_aload_n (i := 0) dX1_isCommandRead_138 rfl rfl ?_
        refine V_getf fl_X1_22 dX1_isCommandRead_139 (hp11 hA) rfl ?_
        refine V_aload_n (i := 0) dX1_isCommandRead_142 rfl rfl ?_
        refine V_getf fl_X1_29 dX1_isCommandRead_143 (hp11 hA) rfl ?_
        refine V_aload_n (i := 0) dX1_isCommandRead_146 rfl rfl ?_
        refine V_getf fl_X1_61 dX1_isCommandRead_147 (hp11 hA) rfl ?_
        rw [show ∀ (s : Sg) (x y : Int32) (i j p : Nat) (v : Int32), (w3 (w3 (nrS s p v) 13 0 i x) 14 0 j y).1 11 0 3 = v from fun s x y i j p v => (w3_ne (by omega)).trans ((w3_ne (by omega)).trans nr_3)]
        refine VA_15 dX1_isCommandRead_150 hA ((w3_ne (by omega)).trans ((w3_ne (by omega)).trans ((nr_f (by decide)).trans hc))) (by omega) ?_
        refine V_aload_n (i := 0) dX1_isCommandRead_151 rfl rfl ?_
        refine V_dup dX1_isCommandRead_152 rfl ?_
        refine V_getf fl_X1_29 dX1_isCommandRead_153 (hp11 hA) rfl ?_
        refine V_iconst (v := 1) dX1_isCommandRead_156 (by decide) ?_
        refine V_iadd dX1_isCommandRead_157 ?_
        rw [show ∀ (s : Sg) (x y z : Int32) (i j k p : Nat) (v : Int32), (w3 (w3 (w3 (nrS s p v) 13 0 i x) 14 0 j y) 15 0 k z).1 11 0 1 + 1 = s.1 11 0 1 + 1 from fun s x y z i j k p v => congrArg (· + 1) ((w3_ne (by omega)).trans ((w3_ne (by omega)).trans ((w3_ne (by omega)).trans (nr_f (by decide))))), hc, show nI c + 1 = nI (c + 1) from nI_1 c]
        refine VP_11_5 fl_X1_29 dX1_isCommandRead_158 hA ?_
        refine V_iconst (v := 1) dX1_isCommandRead_161 (by decide) ?_
        refine V_zret dX1_isCommandRead_162 rfl (by first | rfl | exact bi_n _) (Nat.le_of_ble_eq_true rfl) (Nat.le_of_ble_eq_true rfl) ?_
        refine cp_yes ?_
        first
          | (simp [pCmd, hpk, fdN, mkN, sdN, *]; done)
          | (simp_all [pCmd, fdN, mkN, sdN, pNum]; done)
          | (simp_all [pCmd, fdN, mkN, sdN]; rfl)
      · replace h72 := bi_0.mp h72
        refine V_iconst (v := 0) dX1_isCommandRead_75 (by decide) ?_
        refine V_zret dX1_isCommandRead_76 rfl (by first | rfl | exact bi_n _) (Nat.le_of_ble_eq_true rfl) (Nat.le_of_ble_eq_true rfl) ?_
        refine cp_no (k := 0) (a := 0) (b := 0) ?_
        first
          | (simp [pCmd, hpk, fdN, mkN, sdN, *]; done)
          | (simp_all [pCmd, fdN, mkN, sdN]; done)
    · have hpk : pK (σ.1 12 0) n p = 2 := by rw [pK, if_pos hp, hx9]; rfl
      refine V_aload_n (i := 0) dX1_isCommandRead_0 rfl rfl ?_
      refine V_getf fl_X1_25 dX1_isCommandRead_1 (hp11 hA) rfl ?_
      refine V_aload_n (i := 0) dX1_isCommandRead_4 rfl rfl ?_
      refine V_getf fl_X1_36 dX1_isCommandRead_5 (hp11 hA) rfl ?_
      refine V_icmp_ge (tgt := 28) dX1_isCommandRead_8 (by decide) (fun h8 => by first | exact absurd h8 ((by rw [nr_2, nr_f (by decide), hn]; exact nI_ge (by omega) (by omega))) | exact absurd ((by rw [nr_2, nr_f (by decide), hn]; exact nI_ge (by omega) (by omega))) h8) (fun _ => ?_)
      refine V_ldcS hR dX1_isCommandRead_11 ?_
      refine V_aload_n (i := 0) dX1_isCommandRead_13 rfl rfl ?_
      refine V_getf fl_X1_9 dX1_isCommandRead_14 (hp11 hA) rfl ?_
      refine V_aload_n (i := 0) dX1_isCommandRead_17 rfl rfl ?_
      refine V_getf fl_X1_25 dX1_isCommandRead_18 (hp11 hA) rfl ?_
      refine V_cald9 dX1_isCommandRead_21 (hp12 hA) nr_2 (by omega) (by decide) (congrArg Value.int ((congrFun (congrFun (nr_a (by decide)) 0) _).trans hx9)) ?_
      refine Cb1_1 (d := 5) cv_X1_45 dX1_isCommandRead_22 (t_J0_indexOf_0f7a4 hs (by decide) (by decide)) hs.1 (Nat.le_of_ble_eq_true rfl) ⟨Nat.le_refl _, Nat.le_refl _⟩ (by decide) ⟨Nat.le_of_ble_eq_true rfl, Nat.le_of_ble_eq_true rfl⟩ ?_
      rw [show (if (0 : Int32) ≤ 99 ∧ (99 : Int32) ≤ 255 then fnd letF (99 : Int32).toInt8.toInt32 8 0 else -1) = nI 2 from by decide +kernel]
      refine V_goto (tgt := 29) dX1_isCommandRead_25 (by decide) ?_
      refine V_istore_n (i := 1) dX1_isCommandRead_29 rfl (by decide) ?_
      refine V_iload_n (i := 1) dX1_isCommandRead_30 rfl rfl ?_
      refine V_if_lt (tgt := 51) dX1_isCommandRead_31 (by decide) (fun h31 => by first | exact absurd h31 ((by decide)) | exact absurd ((by decide)) h31) (fun _ => ?_)
      refine V_iload_n (i := 1) dX1_isCommandRead_34 rfl rfl ?_
      refine V_gstN hM.1 fn_51 dX1_isCommandRead_35 ?_
      refine V_tlen hM.2 dX1_isCommandRead_38 ?_
      refine V_icmp_ge (tgt := 51) dX1_isCommandRead_39 (by decide) (fun h39 => by first | exact absurd h39 (nI_ge (by decide) (by decide)) | exact absurd (nI_ge (by decide) (by decide)) h39) (fun _ => ?_)
      refine V_aload_n (i := 0) dX1_isCommandRead_42 rfl rfl ?_
      refine V_getf fl_X1_29 dX1_isCommandRead_43 (hp11 hA) rfl ?_
      refine V_bipush (v := nI 30) dX1_isCommandRead_46 (by decide) ?_
      refine V_icmp_lt (tgt := 53) dX1_isCommandRead_48 (by decide) (fun _ => ?_) (fun h48 => by first | exact absurd ((by rw [nr_f (by decide), hc]; exact nI_lt hc30 (by decide))) h48 | exact absurd h48 ((by rw [nr_f (by decide), hc]; exact nI_lt hc30 (by decide))))
      refine V_aload_n (i := 0) dX1_isCommandRead_53 rfl rfl ?_
      refine V_dup dX1_isCommandRead_54 rfl ?_
      refine V_getf fl_X1_25 dX1_isCommandRead_55 (hp11 hA) rfl ?_
      refine V_iconst (v := 1) dX1_isCommandRead_58 (by decide) ?_
      refine V_iadd dX1_isCommandRead_59 ?_
      refine VNp (q := p + 1) fl_X1_25 dX1_isCommandRead_60 hA (by rw [nr_2]; exact nI_1 p) ?_
      refine V_aload_n (i := 0) dX1_isCommandRead_63 rfl rfl ?_
      refine V_gstN hF.1 fn_54 dX1_isCommandRead_64 ?_
      refine V_iload_n (i := 1) dX1_isCommandRead_67 rfl rfl ?_
      refine V_ti hF.2 (j := 2) rfl (by decide) (by decide) dX1_isCommandRead_68 ?_
      rw [show fdF 2 = nI 1 from rfl]
      refine Cv1_1 (d := 5) cv_X1_57 dX1_isCommandRead_69 (t_X1_isNumberRead hA hn hn6 (by omega) (by decide)) (hp11 hA) rfl rfl (Nat.le_of_ble_eq_true rfl) ⟨Nat.le_refl _, Nat.le_refl _⟩ (by decide) ⟨Nat.le_of_ble_eq_true rfl, Nat.le_of_ble_eq_true rfl⟩ ?_
      refine V_if_ne (tgt := 77) dX1_isCommandRead_72 (by decide) (fun h72 => ?_) (fun h72 => ?_)
      · replace h72 := bi_1.mp h72
        have hb1 := pNum_le (t := (σ.1 12 0)) (n := n) 1 (p + 1) 0
        refine V_aload_n (i := 0) dX1_isCommandRead_77 rfl rfl ?_
        refine V_getf fl_X1_61 dX1_isCommandRead_78 (hp11 hA) rfl ?_
        rw [nr_3]
        refine V_istore_n (i := 2) dX1_isCommandRead_81 rfl (by decide) ?_
        refine V_gstN hM.1 fn_51 dX1_isCommandRead_82 ?_
        refine V_iload_n (i := 1) dX1_isCommandRead_85 rfl rfl ?_
        refine V_tc hM.2 (j := 2) rfl (by decide) (by decide) dX1_isCommandRead_86 ?_
        rw [show mkF 2 = 42 from rfl]
        refine V_if_eq (tgt := 104) dX1_isCommandRead_87 (by decide) (fun h87 => by first | exact absurd h87 ((by decide)) | exact absurd ((by decide)) h87) (fun _ => ?_)
        refine V_aload_n (i := 0) dX1_isCommandRead_90 rfl rfl ?_
        refine V_gstN hM.1 fn_51 dX1_isCommandRead_91 ?_
        refine V_iload_n (i := 1) dX1_isCommandRead_94 rfl rfl ?_
        refine V_tc hM.2 (j := 2) rfl (by decide) (by decide) dX1_isCommandRead_95 ?_
        rw [show mkF 2 = nI 42 from rfl]
        refine Cv1_1 (d := 5) cv_X1_39 dX1_isCommandRead_96 (t_X1_isMarkRead hA hn hn6 (by omega)) (hp11 hA) rfl rfl (Nat.le_of_ble_eq_true rfl) ⟨Nat.le_refl _, Nat.le_refl _⟩ (by decide) ⟨Nat.le_of_ble_eq_true rfl, Nat.le_of_ble_eq_true rfl⟩ ?_
        refine V_if_ne (tgt := 104) dX1_isCommandRead_99 (by decide) (fun h99 => ?_) (fun h99 => ?_)
        · replace h99 := bi_1.mp h99
          rw [if_pos h99]
          have hm9 : (pNum (σ.1 12 0) n 1 (p + 1) 0).1 < n := by
            simp only [pMark, Bool.and_eq_true, decide_eq_true_eq] at h99
            exact h99.1
          refine V_aload_n (i := 0) dX1_isCommandRead_104 rfl rfl ?_
          refine V_gstN hSd.1 fn_64 dX1_isCommandRead_105 ?_
          refine V_iload_n (i := 1) dX1_isCommandRead_108 rfl rfl ?_
          refine V_ti hSd.2 (j := 2) rfl (by decide) (by decide) dX1_isCommandRead_109 ?_
          rw [show sdF 2 = nI 1 from rfl]
          refine Cv1_1 (d := 5) cv_X1_57 dX1_isCommandRead_110 (t_X1_isNumberRead hA hn hn6 (by omega) (by decide)) (hp11 hA) rfl rfl (Nat.le_of_ble_eq_true rfl) ⟨Nat.le_refl _, Nat.le_refl _⟩ (by decide) ⟨Nat.le_of_ble_eq_true rfl, Nat.le_of_ble_eq_true rfl⟩ ?_
          refine V_if_ne (tgt := 118) dX1_isCommandRead_113 (by decide) (fun h113 => ?_) (fun h113 => ?_)
          · replace h113 := bi_1.mp h113
            refine V_aload_n (i := 0) dX1_isCommandRead_118 rfl rfl ?_
            refine V_getf fl_X1_15 dX1_isCommandRead_119 (hp11 hA) rfl ?_
            refine V_aload_n (i := 0) dX1_isCommandRead_122 rfl rfl ?_
            refine V_getf fl_X1_29 dX1_isCommandRead_123 (hp11 hA) rfl ?_
            refine V_iload_n (i := 1) dX1_isCommandRead_126 rfl rfl ?_
            refine VA_13 dX1_isCommandRead_127 hA ((nr_f (by decide)).trans hc) (by omega) ?_
            refine V_aload_n (i := 0) dX1_isCommandRead_128 rfl rfl ?_
            refine V_getf fl_X1_19 dX1_isCommandRead_129 (hp11 hA) rfl ?_
            refine V_aload_n (i := 0) dX1_isCommandRead_132 rfl rfl ?_
            refine V_getf fl_X1_29 dX1_isCommandRead_133 (hp11 hA) rfl ?_
            refine V_iload_n (i := 2) dX1_isCommandRead_136 rfl rfl ?_
            refine VA_14 dX1_isCommandRead_137 hA ((w3_ne (by omega)).trans ((nr_f (by decide)).trans hc)) (by omega) ?_
            refine V_aload_n (i := 0) dX1_isCommandRead_138 rfl rfl ?_
            refine V_getf fl_X1_22 dX1_isCommandRead_139 (hp11 hA) rfl ?_
            refine V_aload_n (i := 0) dX1_isCommandRead_142 rfl rfl ?_
            refine V_getf fl_X1_29 dX1_isCommandRead_143 (hp11 hA) rfl ?_
            refine V_aload_n (i := 0) dX1_isCommandRead_146 rfl rfl ?_
            refine V_getf fl_X1_61 dX1_isCommandRead_147 (hp11 hA) rfl ?_
            rw [show ∀ (s : Sg) (x y : Int32) (i j p : Nat) (v : Int32), (w3 (w3 (nrS s p v) 13 0 i x) 14 0 j y).1 11 0 3 = v from fun s x y i j p v => (w3_ne (by omega)).trans ((w3_ne (by omega)).trans nr_3)]
            refine VA_15 dX1_isCommandRead_150 hA ((w3_ne (by omega)).trans ((w3_ne (by omega)).trans ((nr_f (by decide)).trans hc))) (by omega) ?_
            refine V_aload_n (i := 0) dX1_isCommandRead_151 rfl rfl ?_
            refine V_dup dX1_isCommandRead_152 rfl ?_
            refine V_getf fl_X1_29 dX1_isCommandRead_153 (hp11 hA) rfl ?_
            refine V_iconst (v := 1) dX1_isCommandRead_156 (by decide) ?_
            refine V_iadd dX1_isCommandRead_157 ?_
            rw [show ∀ (s : Sg) (x y z : Int32) (i j k p : Nat) (v : Int32), (w3 (w3 (w3 (nrS s p v) 13 0 i x) 14 0 j y) 15 0 k z).1 11 0 1 + 1 = s.1 11 0 1 + 1 from fun s x y z i j k p v => congrArg (· + 1) ((w3_ne (by omega)).trans ((w3_ne (by omega)).trans ((w3_ne (by omega)).trans (nr_f (by decide))))), hc, show nI c + 1 = nI (c + 1) from nI_1 c]
            refine VP_11_5 fl_X1_29 dX1_isCommandRead_158 hA ?_
            refine V_iconst (v := 1) dX1_isCommandRead_161 (by decide) ?_
            refine V_zret dX1_isCommandRead_162 rfl (by first | rfl | exact bi_n _) (Nat.le_of_ble_eq_true rfl) (Nat.le_of_ble_eq_true rfl) ?_
            refine cp_yes ?_
            first
              | (simp [pCmd, hpk, fdN, mkN, sdN, *]; done)
              | (simp_all [pCmd, fdN, mkN, sdN, pNum]; done)
              | (simp_all [pCmd, fdN, mkN, sdN]; rfl)
          · replace h113 := bi_0.mp h113
            refine V_iconst (v := 0) dX1_isCommandRead_116 (by decide) ?_
            refine V_zret dX1_isCommandRead_117 rfl (by first | rfl | exact bi_n _) (Nat.le_of_ble_eq_true rfl) (Nat.le_of_ble_eq_true rfl) ?_
            refine cp_no (k := 0) (a := 0) (b := 0) ?_
            first
              | (simp [pCmd, hpk, fdN, mkN, sdN, *]; done)
              | (simp_all [pCmd, fdN, mkN, sdN]; done)
        · replace h99 := bi_0.mp h99
          rw [if_neg (by rw [h99]; decide)]
          refine V_iconst (v := 0) dX1_isCommandRead_102 (by decide) ?_
          refine V_zret dX1_isCommandRead_103 rfl (by first | rfl | exact bi_n _) (Nat.le_of_ble_eq_true rfl) (Nat.le_of_ble_eq_true rfl) ?_
          refine cp_no (k := 0) (a := 0) (b := 0) ?_
          first
            | (simp [pCmd, hpk, fdN, mkN, sdN, *]; done)
            | (simp_all [pCmd, fdN, mkN, sdN]; done)
      · replace h72 := bi_0.mp h72
        refine V_iconst (v := 0) dX1_isCommandRead_75 (by decide) ?_
        refine V_zret dX1_isCommandRead_76 rfl (by first | rfl | exact bi_n _) (Nat.le_of_ble_eq_true rfl) (Nat.le_of_ble_eq_true rfl) ?_
        refine cp_no (k := 0) (a := 0) (b := 0) ?_
        first
          | (simp [pCmd, hpk, fdN, mkN, sdN, *]; done)
          | (simp_all [pCmd, fdN, mkN, sdN]; done)
    · have hpk : pK (σ.1 12 0) n p = 3 := by rw [pK, if_pos hp, hx9]; rfl
      refine V_aload_n (i := 0) dX1_isCommandRead_0 rfl rfl ?_
      refine V_getf fl_X1_25 dX1_isCommandRead_1 (hp11 hA) rfl ?_
      refine V_aload_n (i := 0) dX1_isCommandRead_4 rfl rfl ?_
      refine V_getf fl_X1_36 dX1_isCommandRead_5 (hp11 hA) rfl ?_
      refine V_icmp_ge (tgt := 28) dX1_isCommandRead_8 (by decide) (fun h8 => by first | exact absurd h8 ((by rw [nr_2, nr_f (by decide), hn]; exact nI_ge (by omega) (by omega))) | exact absurd ((by rw [nr_2, nr_f (by decide), hn]; exact nI_ge (by omega) (by omega))) h8) (fun _ => ?_)
      refine V_ldcS hR dX1_isCommandRead_11 ?_
      refine V_aload_n (i := 0) dX1_isCommandRead_13 rfl rfl ?_
      refine V_getf fl_X1_9 dX1_isCommandRead_14 (hp11 hA) rfl ?_
      refine V_aload_n (i := 0) dX1_isCommandRead_17 rfl rfl ?_
      refine V_getf fl_X1_25 dX1_isCommandRead_18 (hp11 hA) rfl ?_
      refine V_cald9 dX1_isCommandRead_21 (hp12 hA) nr_2 (by omega) (by decide) (congrArg Value.int ((congrFun (congrFun (nr_a (by decide)) 0) _).trans hx9)) ?_
      refine Cb1_1 (d := 5) cv_X1_45 dX1_isCommandRead_22 (t_J0_indexOf_0f7a4 hs (by decide) (by decide)) hs.1 (Nat.le_of_ble_eq_true rfl) ⟨Nat.le_refl _, Nat.le_refl _⟩ (by decide) ⟨Nat.le_of_ble_eq_true rfl, Nat.le_of_ble_eq_true rfl⟩ ?_
      rw [show (if (0 : Int32) ≤ 98 ∧ (98 : Int32) ≤ 255 then fnd letF (98 : Int32).toInt8.toInt32 8 0 else -1) = nI 3 from by decide +kernel]
      refine V_goto (tgt := 29) dX1_isCommandRead_25 (by decide) ?_
      refine V_istore_n (i := 1) dX1_isCommandRead_29 rfl (by decide) ?_
      refine V_iload_n (i := 1) dX1_isCommandRead_30 rfl rfl ?_
      refine V_if_lt (tgt := 51) dX1_isCommandRead_31 (by decide) (fun h31 => by first | exact absurd h31 ((by decide)) | exact absurd ((by decide)) h31) (fun _ => ?_)
      refine V_iload_n (i := 1) dX1_isCommandRead_34 rfl rfl ?_
      refine V_gstN hM.1 fn_51 dX1_isCommandRead_35 ?_
      refine V_tlen hM.2 dX1_isCommandRead_38 ?_
      refine V_icmp_ge (tgt := 51) dX1_isCommandRead_39 (by decide) (fun h39 => by first | exact absurd h39 (nI_ge (by decide) (by decide)) | exact absurd (nI_ge (by decide) (by decide)) h39) (fun _ => ?_)
      refine V_aload_n (i := 0) dX1_isCommandRead_42 rfl rfl ?_
      refine V_getf fl_X1_29 dX1_isCommandRead_43 (hp11 hA) rfl ?_
      refine V_bipush (v := nI 30) dX1_isCommandRead_46 (by decide) ?_
      refine V_icmp_lt (tgt := 53) dX1_isCommandRead_48 (by decide) (fun _ => ?_) (fun h48 => by first | exact absurd ((by rw [nr_f (by decide), hc]; exact nI_lt hc30 (by decide))) h48 | exact absurd h48 ((by rw [nr_f (by decide), hc]; exact nI_lt hc30 (by decide))))
      refine V_aload_n (i := 0) dX1_isCommandRead_53 rfl rfl ?_
      refine V_dup dX1_isCommandRead_54 rfl ?_
      refine V_getf fl_X1_25 dX1_isCommandRead_55 (hp11 hA) rfl ?_
      refine V_iconst (v := 1) dX1_isCommandRead_58 (by decide) ?_
      refine V_iadd dX1_isCommandRead_59 ?_
      refine VNp (q := p + 1) fl_X1_25 dX1_isCommandRead_60 hA (by rw [nr_2]; exact nI_1 p) ?_
      refine V_aload_n (i := 0) dX1_isCommandRead_63 rfl rfl ?_
      refine V_gstN hF.1 fn_54 dX1_isCommandRead_64 ?_
      refine V_iload_n (i := 1) dX1_isCommandRead_67 rfl rfl ?_
      refine V_ti hF.2 (j := 3) rfl (by decide) (by decide) dX1_isCommandRead_68 ?_
      rw [show fdF 3 = nI 0 from rfl]
      refine Cv1_1 (d := 5) cv_X1_57 dX1_isCommandRead_69 (t_X1_isNumberRead hA hn hn6 (by omega) (by decide)) (hp11 hA) rfl rfl (Nat.le_of_ble_eq_true rfl) ⟨Nat.le_refl _, Nat.le_refl _⟩ (by decide) ⟨Nat.le_of_ble_eq_true rfl, Nat.le_of_ble_eq_true rfl⟩ ?_
      simp only [show pNum (σ.1 12 0) n 0 (p + 1) 0 = (p + 1, (0 : Int32)) from rfl]
      refine V_if_ne (tgt := 77) dX1_isCommandRead_72 (by decide) (fun _ => ?_) (fun h72 => by first | exact absurd ((by simp [bi])) h72 | exact absurd h72 ((by simp [bi])))
      refine V_aload_n (i := 0) dX1_isCommandRead_77 rfl rfl ?_
      refine V_getf fl_X1_61 dX1_isCommandRead_78 (hp11 hA) rfl ?_
      rw [nr_3]
      refine V_istore_n (i := 2) dX1_isCommandRead_81 rfl (by decide) ?_
      refine V_gstN hM.1 fn_51 dX1_isCommandRead_82 ?_
      refine V_iload_n (i := 1) dX1_isCommandRead_85 rfl rfl ?_
      refine V_tc hM.2 (j := 3) rfl (by decide) (by decide) dX1_isCommandRead_86 ?_
      rw [show mkF 3 = 0 from rfl]
      refine V_if_eq (tgt := 104) dX1_isCommandRead_87 (by decide) (fun _ => ?_) (fun h87 => by first | exact absurd ((by decide)) h87 | exact absurd h87 ((by decide)))
      refine V_aload_n (i := 0) dX1_isCommandRead_104 rfl rfl ?_
      refine V_gstN hSd.1 fn_64 dX1_isCommandRead_105 ?_
      refine V_iload_n (i := 1) dX1_isCommandRead_108 rfl rfl ?_
      refine V_ti hSd.2 (j := 3) rfl (by decide) (by decide) dX1_isCommandRead_109 ?_
      rw [show sdF 3 = nI 0 from rfl]
      refine Cv1_1 (d := 5) cv_X1_57 dX1_isCommandRead_110 (t_X1_isNumberRead hA hn hn6 (by omega) (by decide)) (hp11 hA) rfl rfl (Nat.le_of_ble_eq_true rfl) ⟨Nat.le_refl _, Nat.le_refl _⟩ (by decide) ⟨Nat.le_of_ble_eq_true rfl, Nat.le_of_ble_eq_true rfl⟩ ?_
      refine V_if_ne (tgt := 118) dX1_isCommandRead_113 (by decide) (fun _ => ?_) (fun h113 => by first | exact absurd ((by simp [bi])) h113 | exact absurd h113 ((by simp [bi])))
      refine V_aload_n (i := 0) dX1_isCommandRead_118 rfl rfl ?_
      refine V_getf fl_X1_15 dX1_isCommandRead_119 (hp11 hA) rfl ?_
      refine V_aload_n (i := 0) dX1_isCommandRead_122 rfl rfl ?_
      refine V_getf fl_X1_29 dX1_isCommandRead_123 (hp11 hA) rfl ?_
      refine V_iload_n (i := 1) dX1_isCommandRead_126 rfl rfl ?_
      refine VA_13 dX1_isCommandRead_127 hA ((nr_f (by decide)).trans hc) (by omega) ?_
      refine V_aload_n (i := 0) dX1_isCommandRead_128 rfl rfl ?_
      refine V_getf fl_X1_19 dX1_isCommandRead_129 (hp11 hA) rfl ?_
      refine V_aload_n (i := 0) dX1_isCommandRead_132 rfl rfl ?_
      refine V_getf fl_X1_29 dX1_isCommandRead_133 (hp11 hA) rfl ?_
      refine V_iload_n (i := 2) dX1_isCommandRead_136 rfl rfl ?_
      refine VA_14 dX1_isCommandRead_137 hA ((w3_ne (by omega)).trans ((nr_f (by decide)).trans hc)) (by omega) ?_
      refine V_aload_n (i := 0) dX1_isCommandRead_138 rfl rfl ?_
      refine V_getf fl_X1_22 dX1_isCommandRead_139 (hp11 hA) rfl ?_
      refine V_aload_n (i := 0) dX1_isCommandRead_142 rfl rfl ?_
      refine V_getf fl_X1_29 dX1_isCommandRead_143 (hp11 hA) rfl ?_
      refine V_aload_n (i := 0) dX1_isCommandRead_146 rfl rfl ?_
      refine V_getf fl_X1_61 dX1_isCommandRead_147 (hp11 hA) rfl ?_
      rw [show ∀ (s : Sg) (x y : Int32) (i j p : Nat) (v : Int32), (w3 (w3 (nrS s p v) 13 0 i x) 14 0 j y).1 11 0 3 = v from fun s x y i j p v => (w3_ne (by omega)).trans ((w3_ne (by omega)).trans nr_3)]
      refine VA_15 dX1_isCommandRead_150 hA ((w3_ne (by omega)).trans ((w3_ne (by omega)).trans ((nr_f (by decide)).trans hc))) (by omega) ?_
      refine V_aload_n (i := 0) dX1_isCommandRead_151 rfl rfl ?_
      refine V_dup dX1_isCommandRead_152 rfl ?_
      refine V_getf fl_X1_29 dX1_isCommandRead_153 (hp11 hA) rfl ?_
      refine V_iconst (v := 1) dX1_isCommandRead_156 (by decide) ?_
      refine V_iadd dX1_isCommandRead_157 ?_
      rw [show ∀ (s : Sg) (x y z : Int32) (i j k p : Nat) (v : Int32), (w3 (w3 (w3 (nrS s p v) 13 0 i x) 14 0 j y) 15 0 k z).1 11 0 1 + 1 = s.1 11 0 1 + 1 from fun s x y z i j k p v => congrArg (· + 1) ((w3_ne (by omega)).trans ((w3_ne (by omega)).trans ((w3_ne (by omega)).trans (nr_f (by decide))))), hc, show nI c + 1 = nI (c + 1) from nI_1 c]
      refine VP_11_5 fl_X1_29 dX1_isCommandRead_158 hA ?_
      refine V_iconst (v := 1) dX1_isCommandRead_161 (by decide) ?_
      refine V_zret dX1_isCommandRead_162 rfl (by first | rfl | exact bi_n _) (Nat.le_of_ble_eq_true rfl) (Nat.le_of_ble_eq_true rfl) ?_
      refine cp_yes ?_
      first
        | (simp [pCmd, hpk, fdN, mkN, sdN, *]; done)
        | (simp_all [pCmd, fdN, mkN, sdN, pNum]; done)
        | (simp_all [pCmd, fdN, mkN, sdN]; rfl)
    · have hpk : pK (σ.1 12 0) n p = 4 := by rw [pK, if_pos hp, hx9]; rfl
      refine V_aload_n (i := 0) dX1_isCommandRead_0 rfl rfl ?_
      refine V_getf fl_X1_25 dX1_isCommandRead_1 (hp11 hA) rfl ?_
      refine V_aload_n (i := 0) dX1_isCommandRead_4 rfl rfl ?_
      refine V_getf fl_X1_36 dX1_isCommandRead_5 (hp11 hA) rfl ?_
      refine V_icmp_ge (tgt := 28) dX1_isCommandRead_8 (by decide) (fun h8 => by first | exact absurd h8 ((by rw [nr_2, nr_f (by decide), hn]; exact nI_ge (by omega) (by omega))) | exact absurd ((by rw [nr_2, nr_f (by decide), hn]; exact nI_ge (by omega) (by omega))) h8) (fun _ => ?_)
      refine V_ldcS hR dX1_isCommandRead_11 ?_
      refine V_aload_n (i := 0) dX1_isCommandRead_13 rfl rfl ?_
      refine V_getf fl_X1_9 dX1_isCommandRead_14 (hp11 hA) rfl ?_
      refine V_aload_n (i := 0) dX1_isCommandRead_17 rfl rfl ?_
      refine V_getf fl_X1_25 dX1_isCommandRead_18 (hp11 hA) rfl ?_
      refine V_cald9 dX1_isCommandRead_21 (hp12 hA) nr_2 (by omega) (by decide) (congrArg Value.int ((congrFun (congrFun (nr_a (by decide)) 0) _).trans hx9)) ?_
      refine Cb1_1 (d := 5) cv_X1_45 dX1_isCommandRead_22 (t_J0_indexOf_0f7a4 hs (by decide) (by decide)) hs.1 (Nat.le_of_ble_eq_true rfl) ⟨Nat.le_refl _, Nat.le_refl _⟩ (by decide) ⟨Nat.le_of_ble_eq_true rfl, Nat.le_of_ble_eq_true rfl⟩ ?_
      rw [show (if (0 : Int32) ≤ 109 ∧ (109 : Int32) ≤ 255 then fnd letF (109 : Int32).toInt8.toInt32 8 0 else -1) = nI 4 from by decide +kernel]
      refine V_goto (tgt := 29) dX1_isCommandRead_25 (by decide) ?_
      refine V_istore_n (i := 1) dX1_isCommandRead_29 rfl (by decide) ?_
      refine V_iload_n (i := 1) dX1_isCommandRead_30 rfl rfl ?_
      refine V_if_lt (tgt := 51) dX1_isCommandRead_31 (by decide) (fun h31 => by first | exact absurd h31 ((by decide)) | exact absurd ((by decide)) h31) (fun _ => ?_)
      refine V_iload_n (i := 1) dX1_isCommandRead_34 rfl rfl ?_
      refine V_gstN hM.1 fn_51 dX1_isCommandRead_35 ?_
      refine V_tlen hM.2 dX1_isCommandRead_38 ?_
      refine V_icmp_ge (tgt := 51) dX1_isCommandRead_39 (by decide) (fun h39 => by first | exact absurd h39 (nI_ge (by decide) (by decide)) | exact absurd (nI_ge (by decide) (by decide)) h39) (fun _ => ?_)
      refine V_aload_n (i := 0) dX1_isCommandRead_42 rfl rfl ?_
      refine V_getf fl_X1_29 dX1_isCommandRead_43 (hp11 hA) rfl ?_
      refine V_bipush (v := nI 30) dX1_isCommandRead_46 (by decide) ?_
      refine V_icmp_lt (tgt := 53) dX1_isCommandRead_48 (by decide) (fun _ => ?_) (fun h48 => by first | exact absurd ((by rw [nr_f (by decide), hc]; exact nI_lt hc30 (by decide))) h48 | exact absurd h48 ((by rw [nr_f (by decide), hc]; exact nI_lt hc30 (by decide))))
      refine V_aload_n (i := 0) dX1_isCommandRead_53 rfl rfl ?_
      refine V_dup dX1_isCommandRead_54 rfl ?_
      refine V_getf fl_X1_25 dX1_isCommandRead_55 (hp11 hA) rfl ?_
      refine V_iconst (v := 1) dX1_isCommandRead_58 (by decide) ?_
      refine V_iadd dX1_isCommandRead_59 ?_
      refine VNp (q := p + 1) fl_X1_25 dX1_isCommandRead_60 hA (by rw [nr_2]; exact nI_1 p) ?_
      refine V_aload_n (i := 0) dX1_isCommandRead_63 rfl rfl ?_
      refine V_gstN hF.1 fn_54 dX1_isCommandRead_64 ?_
      refine V_iload_n (i := 1) dX1_isCommandRead_67 rfl rfl ?_
      refine V_ti hF.2 (j := 4) rfl (by decide) (by decide) dX1_isCommandRead_68 ?_
      rw [show fdF 4 = nI 1 from rfl]
      refine Cv1_1 (d := 5) cv_X1_57 dX1_isCommandRead_69 (t_X1_isNumberRead hA hn hn6 (by omega) (by decide)) (hp11 hA) rfl rfl (Nat.le_of_ble_eq_true rfl) ⟨Nat.le_refl _, Nat.le_refl _⟩ (by decide) ⟨Nat.le_of_ble_eq_true rfl, Nat.le_of_ble_eq_true rfl⟩ ?_
      refine V_if_ne (tgt := 77) dX1_isCommandRead_72 (by decide) (fun h72 => ?_) (fun h72 => ?_)
      · replace h72 := bi_1.mp h72
        have hb1 := pNum_le (t := (σ.1 12 0)) (n := n) 1 (p + 1) 0
        refine V_aload_n (i := 0) dX1_isCommandRead_77 rfl rfl ?_
        refine V_getf fl_X1_61 dX1_isCommandRead_78 (hp11 hA) rfl ?_
        rw [nr_3]
        refine V_istore_n (i := 2) dX1_isCommandRead_81 rfl (by decide) ?_
        refine V_gstN hM.1 fn_51 dX1_isCommandRead_82 ?_
        refine V_iload_n (i := 1) dX1_isCommandRead_85 rfl rfl ?_
        refine V_tc hM.2 (j := 4) rfl (by decide) (by decide) dX1_isCommandRead_86 ?_
        rw [show mkF 4 = 0 from rfl]
        refine V_if_eq (tgt := 104) dX1_isCommandRead_87 (by decide) (fun _ => ?_) (fun h87 => by first | exact absurd ((by decide)) h87 | exact absurd h87 ((by decide)))
        refine V_aload_n (i := 0) dX1_isCommandRead_104 rfl rfl ?_
        refine V_gstN hSd.1 fn_64 dX1_isCommandRead_105 ?_
        refine V_iload_n (i := 1) dX1_isCommandRead_108 rfl rfl ?_
        refine V_ti hSd.2 (j := 4) rfl (by decide) (by decide) dX1_isCommandRead_109 ?_
        rw [show sdF 4 = nI 0 from rfl]
        refine Cv1_1 (d := 5) cv_X1_57 dX1_isCommandRead_110 (t_X1_isNumberRead hA hn hn6 (by omega) (by decide)) (hp11 hA) rfl rfl (Nat.le_of_ble_eq_true rfl) ⟨Nat.le_refl _, Nat.le_refl _⟩ (by decide) ⟨Nat.le_of_ble_eq_true rfl, Nat.le_of_ble_eq_true rfl⟩ ?_
        refine V_if_ne (tgt := 118) dX1_isCommandRead_113 (by decide) (fun _ => ?_) (fun h113 => by first | exact absurd ((by simp [bi])) h113 | exact absurd h113 ((by simp [bi])))
        refine V_aload_n (i := 0) dX1_isCommandRead_118 rfl rfl ?_
        refine V_getf fl_X1_15 dX1_isCommandRead_119 (hp11 hA) rfl ?_
        refine V_aload_n (i := 0) dX1_isCommandRead_122 rfl rfl ?_
        refine V_getf fl_X1_29 dX1_isCommandRead_123 (hp11 hA) rfl ?_
        refine V_iload_n (i := 1) dX1_isCommandRead_126 rfl rfl ?_
        refine VA_13 dX1_isCommandRead_127 hA ((nr_f (by decide)).trans hc) (by omega) ?_
        refine V_aload_n (i := 0) dX1_isCommandRead_128 rfl rfl ?_
        refine V_getf fl_X1_19 dX1_isCommandRead_129 (hp11 hA) rfl ?_
        refine V_aload_n (i := 0) dX1_isCommandRead_132 rfl rfl ?_
        refine V_getf fl_X1_29 dX1_isCommandRead_133 (hp11 hA) rfl ?_
        refine V_iload_n (i := 2) dX1_isCommandRead_136 rfl rfl ?_
        refine VA_14 dX1_isCommandRead_137 hA ((w3_ne (by omega)).trans ((nr_f (by decide)).trans hc)) (by omega) ?_
        refine V_aload_n (i := 0) dX1_isCommandRead_138 rfl rfl ?_
        refine V_getf fl_X1_22 dX1_isCommandRead_139 (hp11 hA) rfl ?_
        refine V_aload_n (i := 0) dX1_isCommandRead_142 rfl rfl ?_
        refine V_getf fl_X1_29 dX1_isCommandRead_143 (hp11 hA) rfl ?_
        refine V_aload_n (i := 0) dX1_isCommandRead_146 rfl rfl ?_
        refine V_getf fl_X1_61 dX1_isCommandRead_147 (hp11 hA) rfl ?_
        rw [show ∀ (s : Sg) (x y : Int32) (i j p : Nat) (v : Int32), (w3 (w3 (nrS s p v) 13 0 i x) 14 0 j y).1 11 0 3 = v from fun s x y i j p v => (w3_ne (by omega)).trans ((w3_ne (by omega)).trans nr_3)]
        refine VA_15 dX1_isCommandRead_150 hA ((w3_ne (by omega)).trans ((w3_ne (by omega)).trans ((nr_f (by decide)).trans hc))) (by omega) ?_
        refine V_aload_n (i := 0) dX1_isCommandRead_151 rfl rfl ?_
        refine V_dup dX1_isCommandRead_152 rfl ?_
        refine V_getf fl_X1_29 dX1_isCommandRead_153 (hp11 hA) rfl ?_
        refine V_iconst (v := 1) dX1_isCommandRead_156 (by decide) ?_
        refine V_iadd dX1_isCommandRead_157 ?_
        rw [show ∀ (s : Sg) (x y z : Int32) (i j k p : Nat) (v : Int32), (w3 (w3 (w3 (nrS s p v) 13 0 i x) 14 0 j y) 15 0 k z).1 11 0 1 + 1 = s.1 11 0 1 + 1 from fun s x y z i j k p v => congrArg (· + 1) ((w3_ne (by omega)).trans ((w3_ne (by omega)).trans ((w3_ne (by omega)).trans (nr_f (by decide))))), hc, show nI c + 1 = nI (c + 1) from nI_1 c]
        refine VP_11_5 fl_X1_29 dX1_isCommandRead_158 hA ?_
        refine V_iconst (v := 1) dX1_isCommandRead_161 (by decide) ?_
        refine V_zret dX1_isCommandRead_162 rfl (by first | rfl | exact bi_n _) (Nat.le_of_ble_eq_true rfl) (Nat.le_of_ble_eq_true rfl) ?_
        refine cp_yes ?_
        first
          | (simp [pCmd, hpk, fdN, mkN, sdN, *]; done)
          | (simp_all [pCmd, fdN, mkN, sdN, pNum]; done)
          | (simp_all [pCmd, fdN, mkN, sdN]; rfl)
      · replace h72 := bi_0.mp h72
        refine V_iconst (v := 0) dX1_isCommandRead_75 (by decide) ?_
        refine V_zret dX1_isCommandRead_76 rfl (by first | rfl | exact bi_n _) (Nat.le_of_ble_eq_true rfl) (Nat.le_of_ble_eq_true rfl) ?_
        refine cp_no (k := 0) (a := 0) (b := 0) ?_
        first
          | (simp [pCmd, hpk, fdN, mkN, sdN, *]; done)
          | (simp_all [pCmd, fdN, mkN, sdN]; done)
    · have hpk : pK (σ.1 12 0) n p = 5 := by rw [pK, if_pos hp, hx9]; rfl
      refine V_aload_n (i := 0) dX1_isCommandRead_0 rfl rfl ?_
      refine V_getf fl_X1_25 dX1_isCommandRead_1 (hp11 hA) rfl ?_
      refine V_aload_n (i := 0) dX1_isCommandRead_4 rfl rfl ?_
      refine V_getf fl_X1_36 dX1_isCommandRead_5 (hp11 hA) rfl ?_
      refine V_icmp_ge (tgt := 28) dX1_isCommandRead_8 (by decide) (fun h8 => by first | exact absurd h8 ((by rw [nr_2, nr_f (by decide), hn]; exact nI_ge (by omega) (by omega))) | exact absurd ((by rw [nr_2, nr_f (by decide), hn]; exact nI_ge (by omega) (by omega))) h8) (fun _ => ?_)
      refine V_ldcS hR dX1_isCommandRead_11 ?_
      refine V_aload_n (i := 0) dX1_isCommandRead_13 rfl rfl ?_
      refine V_getf fl_X1_9 dX1_isCommandRead_14 (hp11 hA) rfl ?_
      refine V_aload_n (i := 0) dX1_isCommandRead_17 rfl rfl ?_
      refine V_getf fl_X1_25 dX1_isCommandRead_18 (hp11 hA) rfl ?_
      refine V_cald9 dX1_isCommandRead_21 (hp12 hA) nr_2 (by omega) (by decide) (congrArg Value.int ((congrFun (congrFun (nr_a (by decide)) 0) _).trans hx9)) ?_
      refine Cb1_1 (d := 5) cv_X1_45 dX1_isCommandRead_22 (t_J0_indexOf_0f7a4 hs (by decide) (by decide)) hs.1 (Nat.le_of_ble_eq_true rfl) ⟨Nat.le_refl _, Nat.le_refl _⟩ (by decide) ⟨Nat.le_of_ble_eq_true rfl, Nat.le_of_ble_eq_true rfl⟩ ?_
      rw [show (if (0 : Int32) ≤ 112 ∧ (112 : Int32) ≤ 255 then fnd letF (112 : Int32).toInt8.toInt32 8 0 else -1) = nI 5 from by decide +kernel]
      refine V_goto (tgt := 29) dX1_isCommandRead_25 (by decide) ?_
      refine V_istore_n (i := 1) dX1_isCommandRead_29 rfl (by decide) ?_
      refine V_iload_n (i := 1) dX1_isCommandRead_30 rfl rfl ?_
      refine V_if_lt (tgt := 51) dX1_isCommandRead_31 (by decide) (fun h31 => by first | exact absurd h31 ((by decide)) | exact absurd ((by decide)) h31) (fun _ => ?_)
      refine V_iload_n (i := 1) dX1_isCommandRead_34 rfl rfl ?_
      refine V_gstN hM.1 fn_51 dX1_isCommandRead_35 ?_
      refine V_tlen hM.2 dX1_isCommandRead_38 ?_
      refine V_icmp_ge (tgt := 51) dX1_isCommandRead_39 (by decide) (fun h39 => by first | exact absurd h39 (nI_ge (by decide) (by decide)) | exact absurd (nI_ge (by decide) (by decide)) h39) (fun _ => ?_)
      refine V_aload_n (i := 0) dX1_isCommandRead_42 rfl rfl ?_
      refine V_getf fl_X1_29 dX1_isCommandRead_43 (hp11 hA) rfl ?_
      refine V_bipush (v := nI 30) dX1_isCommandRead_46 (by decide) ?_
      refine V_icmp_lt (tgt := 53) dX1_isCommandRead_48 (by decide) (fun _ => ?_) (fun h48 => by first | exact absurd ((by rw [nr_f (by decide), hc]; exact nI_lt hc30 (by decide))) h48 | exact absurd h48 ((by rw [nr_f (by decide), hc]; exact nI_lt hc30 (by decide))))
      refine V_aload_n (i := 0) dX1_isCommandRead_53 rfl rfl ?_
      refine V_dup dX1_isCommandRead_54 rfl ?_
      refine V_getf fl_X1_25 dX1_isCommandRead_55 (hp11 hA) rfl ?_
      refine V_iconst (v := 1) dX1_isCommandRead_58 (by decide) ?_
      refine V_iadd dX1_isCommandRead_59 ?_
      refine VNp (q := p + 1) fl_X1_25 dX1_isCommandRead_60 hA (by rw [nr_2]; exact nI_1 p) ?_
      refine V_aload_n (i := 0) dX1_isCommandRead_63 rfl rfl ?_
      refine V_gstN hF.1 fn_54 dX1_isCommandRead_64 ?_
      refine V_iload_n (i := 1) dX1_isCommandRead_67 rfl rfl ?_
      refine V_ti hF.2 (j := 5) rfl (by decide) (by decide) dX1_isCommandRead_68 ?_
      rw [show fdF 5 = nI 1 from rfl]
      refine Cv1_1 (d := 5) cv_X1_57 dX1_isCommandRead_69 (t_X1_isNumberRead hA hn hn6 (by omega) (by decide)) (hp11 hA) rfl rfl (Nat.le_of_ble_eq_true rfl) ⟨Nat.le_refl _, Nat.le_refl _⟩ (by decide) ⟨Nat.le_of_ble_eq_true rfl, Nat.le_of_ble_eq_true rfl⟩ ?_
      refine V_if_ne (tgt := 77) dX1_isCommandRead_72 (by decide) (fun h72 => ?_) (fun h72 => ?_)
      · replace h72 := bi_1.mp h72
        have hb1 := pNum_le (t := (σ.1 12 0)) (n := n) 1 (p + 1) 0
        refine V_aload_n (i := 0) dX1_isCommandRead_77 rfl rfl ?_
        refine V_getf fl_X1_61 dX1_isCommandRead_78 (hp11 hA) rfl ?_
        rw [nr_3]
        refine V_istore_n (i := 2) dX1_isCommandRead_81 rfl (by decide) ?_
        refine V_gstN hM.1 fn_51 dX1_isCommandRead_82 ?_
        refine V_iload_n (i := 1) dX1_isCommandRead_85 rfl rfl ?_
        refine V_tc hM.2 (j := 5) rfl (by decide) (by decide) dX1_isCommandRead_86 ?_
        rw [show mkF 5 = 61 from rfl]
        refine V_if_eq (tgt := 104) dX1_isCommandRead_87 (by decide) (fun h87 => by first | exact absurd h87 ((by decide)) | exact absurd ((by decide)) h87) (fun _ => ?_)
        refine V_aload_n (i := 0) dX1_isCommandRead_90 rfl rfl ?_
        refine V_gstN hM.1 fn_51 dX1_isCommandRead_91 ?_
        refine V_iload_n (i := 1) dX1_isCommandRead_94 rfl rfl ?_
        refine V_tc hM.2 (j := 5) rfl (by decide) (by decide) dX1_isCommandRead_95 ?_
        rw [show mkF 5 = nI 61 from rfl]
        refine Cv1_1 (d := 5) cv_X1_39 dX1_isCommandRead_96 (t_X1_isMarkRead hA hn hn6 (by omega)) (hp11 hA) rfl rfl (Nat.le_of_ble_eq_true rfl) ⟨Nat.le_refl _, Nat.le_refl _⟩ (by decide) ⟨Nat.le_of_ble_eq_true rfl, Nat.le_of_ble_eq_true rfl⟩ ?_
        refine V_if_ne (tgt := 104) dX1_isCommandRead_99 (by decide) (fun h99 => ?_) (fun h99 => ?_)
        · replace h99 := bi_1.mp h99
          rw [if_pos h99]
          have hm9 : (pNum (σ.1 12 0) n 1 (p + 1) 0).1 < n := by
            simp only [pMark, Bool.and_eq_true, decide_eq_true_eq] at h99
            exact h99.1
          refine V_aload_n (i := 0) dX1_isCommandRead_104 rfl rfl ?_
          refine V_gstN hSd.1 fn_64 dX1_isCommandRead_105 ?_
          refine V_iload_n (i := 1) dX1_isCommandRead_108 rfl rfl ?_
          refine V_ti hSd.2 (j := 5) rfl (by decide) (by decide) dX1_isCommandRead_109 ?_
          rw [show sdF 5 = nI 2 from rfl]
          refine Cv1_1 (d := 5) cv_X1_57 dX1_isCommandRead_110 (t_X1_isNumberRead hA hn hn6 (by omega) (by decide)) (hp11 hA) rfl rfl (Nat.le_of_ble_eq_true rfl) ⟨Nat.le_refl _, Nat.le_refl _⟩ (by decide) ⟨Nat.le_of_ble_eq_true rfl, Nat.le_of_ble_eq_true rfl⟩ ?_
          refine V_if_ne (tgt := 118) dX1_isCommandRead_113 (by decide) (fun h113 => ?_) (fun h113 => ?_)
          · replace h113 := bi_1.mp h113
            refine V_aload_n (i := 0) dX1_isCommandRead_118 rfl rfl ?_
            refine V_getf fl_X1_15 dX1_isCommandRead_119 (hp11 hA) rfl ?_
            refine V_aload_n (i := 0) dX1_isCommandRead_122 rfl rfl ?_
            refine V_getf fl_X1_29 dX1_isCommandRead_123 (hp11 hA) rfl ?_
            refine V_iload_n (i := 1) dX1_isCommandRead_126 rfl rfl ?_
            refine VA_13 dX1_isCommandRead_127 hA ((nr_f (by decide)).trans hc) (by omega) ?_
            refine V_aload_n (i := 0) dX1_isCommandRead_128 rfl rfl ?_
            refine V_getf fl_X1_19 dX1_isCommandRead_129 (hp11 hA) rfl ?_
            refine V_aload_n (i := 0) dX1_isCommandRead_132 rfl rfl ?_
            refine V_getf fl_X1_29 dX1_isCommandRead_133 (hp11 hA) rfl ?_
            refine V_iload_n (i := 2) dX1_isCommandRead_136 rfl rfl ?_
            refine VA_14 dX1_isCommandRead_137 hA ((w3_ne (by omega)).trans ((nr_f (by decide)).trans hc)) (by omega) ?_
            refine V_aload_n (i := 0) dX1_isCommandRead_138 rfl rfl ?_
            refine V_getf fl_X1_22 dX1_isCommandRead_139 (hp11 hA) rfl ?_
            refine V_aload_n (i := 0) dX1_isCommandRead_142 rfl rfl ?_
            refine V_getf fl_X1_29 dX1_isCommandRead_143 (hp11 hA) rfl ?_
            refine V_aload_n (i := 0) dX1_isCommandRead_146 rfl rfl ?_
            refine V_getf fl_X1_61 dX1_isCommandRead_147 (hp11 hA) rfl ?_
            rw [show ∀ (s : Sg) (x y : Int32) (i j p : Nat) (v : Int32), (w3 (w3 (nrS s p v) 13 0 i x) 14 0 j y).1 11 0 3 = v from fun s x y i j p v => (w3_ne (by omega)).trans ((w3_ne (by omega)).trans nr_3)]
            refine VA_15 dX1_isCommandRead_150 hA ((w3_ne (by omega)).trans ((w3_ne (by omega)).trans ((nr_f (by decide)).trans hc))) (by omega) ?_
            refine V_aload_n (i := 0) dX1_isCommandRead_151 rfl rfl ?_
            refine V_dup dX1_isCommandRead_152 rfl ?_
            refine V_getf fl_X1_29 dX1_isCommandRead_153 (hp11 hA) rfl ?_
            refine V_iconst (v := 1) dX1_isCommandRead_156 (by decide) ?_
            refine V_iadd dX1_isCommandRead_157 ?_
            rw [show ∀ (s : Sg) (x y z : Int32) (i j k p : Nat) (v : Int32), (w3 (w3 (w3 (nrS s p v) 13 0 i x) 14 0 j y) 15 0 k z).1 11 0 1 + 1 = s.1 11 0 1 + 1 from fun s x y z i j k p v => congrArg (· + 1) ((w3_ne (by omega)).trans ((w3_ne (by omega)).trans ((w3_ne (by omega)).trans (nr_f (by decide))))), hc, show nI c + 1 = nI (c + 1) from nI_1 c]
            refine VP_11_5 fl_X1_29 dX1_isCommandRead_158 hA ?_
            refine V_iconst (v := 1) dX1_isCommandRead_161 (by decide) ?_
            refine V_zret dX1_isCommandRead_162 rfl (by first | rfl | exact bi_n _) (Nat.le_of_ble_eq_true rfl) (Nat.le_of_ble_eq_true rfl) ?_
            refine cp_yes ?_
            first
              | (simp [pCmd, hpk, fdN, mkN, sdN, *]; done)
              | (simp_all [pCmd, fdN, mkN, sdN, pNum]; done)
              | (simp_all [pCmd, fdN, mkN, sdN]; rfl)
          · replace h113 := bi_0.mp h113
            refine V_iconst (v := 0) dX1_isCommandRead_116 (by decide) ?_
            refine V_zret dX1_isCommandRead_117 rfl (by first | rfl | exact bi_n _) (Nat.le_of_ble_eq_true rfl) (Nat.le_of_ble_eq_true rfl) ?_
            refine cp_no (k := 0) (a := 0) (b := 0) ?_
            first
              | (simp [pCmd, hpk, fdN, mkN, sdN, *]; done)
              | (simp_all [pCmd, fdN, mkN, sdN]; done)
        · replace h99 := bi_0.mp h99
          rw [if_neg (by rw [h99]; decide)]
          refine V_iconst (v := 0) dX1_isCommandRead_102 (by decide) ?_
          refine V_zret dX1_isCommandRead_103 rfl (by first | rfl | exact bi_n _) (Nat.le_of_ble_eq_true rfl) (Nat.le_of_ble_eq_true rfl) ?_
          refine cp_no (k := 0) (a := 0) (b := 0) ?_
          first
            | (simp [pCmd, hpk, fdN, mkN, sdN, *]; done)
            | (simp_all [pCmd, fdN, mkN, sdN]; done)
      · replace h72 := bi_0.mp h72
        refine V_iconst (v := 0) dX1_isCommandRead_75 (by decide) ?_
        refine V_zret dX1_isCommandRead_76 rfl (by first | rfl | exact bi_n _) (Nat.le_of_ble_eq_true rfl) (Nat.le_of_ble_eq_true rfl) ?_
        refine cp_no (k := 0) (a := 0) (b := 0) ?_
        first
          | (simp [pCmd, hpk, fdN, mkN, sdN, *]; done)
          | (simp_all [pCmd, fdN, mkN, sdN]; done)
    · have hpk : pK (σ.1 12 0) n p = 6 := by rw [pK, if_pos hp, hx9]; rfl
      refine V_aload_n (i := 0) dX1_isCommandRead_0 rfl rfl ?_
      refine V_getf fl_X1_25 dX1_isCommandRead_1 (hp11 hA) rfl ?_
      refine V_aload_n (i := 0) dX1_isCommandRead_4 rfl rfl ?_
      refine V_getf fl_X1_36 dX1_isCommandRead_5 (hp11 hA) rfl ?_
      refine V_icmp_ge (tgt := 28) dX1_isCommandRead_8 (by decide) (fun h8 => by first | exact absurd h8 ((by rw [nr_2, nr_f (by decide), hn]; exact nI_ge (by omega) (by omega))) | exact absurd ((by rw [nr_2, nr_f (by decide), hn]; exact nI_ge (by omega) (by omega))) h8) (fun _ => ?_)
      refine V_ldcS hR dX1_isCommandRead_11 ?_
      refine V_aload_n (i := 0) dX1_isCommandRead_13 rfl rfl ?_
      refine V_getf fl_X1_9 dX1_isCommandRead_14 (hp11 hA) rfl ?_
      refine V_aload_n (i := 0) dX1_isCommandRead_17 rfl rfl ?_
      refine V_getf fl_X1_25 dX1_isCommandRead_18 (hp11 hA) rfl ?_
      refine V_cald9 dX1_isCommandRead_21 (hp12 hA) nr_2 (by omega) (by decide) (congrArg Value.int ((congrFun (congrFun (nr_a (by decide)) 0) _).trans hx9)) ?_
      refine Cb1_1 (d := 5) cv_X1_45 dX1_isCommandRead_22 (t_J0_indexOf_0f7a4 hs (by decide) (by decide)) hs.1 (Nat.le_of_ble_eq_true rfl) ⟨Nat.le_refl _, Nat.le_refl _⟩ (by decide) ⟨Nat.le_of_ble_eq_true rfl, Nat.le_of_ble_eq_true rfl⟩ ?_
      rw [show (if (0 : Int32) ≤ 115 ∧ (115 : Int32) ≤ 255 then fnd letF (115 : Int32).toInt8.toInt32 8 0 else -1) = nI 6 from by decide +kernel]
      refine V_goto (tgt := 29) dX1_isCommandRead_25 (by decide) ?_
      refine V_istore_n (i := 1) dX1_isCommandRead_29 rfl (by decide) ?_
      refine V_iload_n (i := 1) dX1_isCommandRead_30 rfl rfl ?_
      refine V_if_lt (tgt := 51) dX1_isCommandRead_31 (by decide) (fun h31 => by first | exact absurd h31 ((by decide)) | exact absurd ((by decide)) h31) (fun _ => ?_)
      refine V_iload_n (i := 1) dX1_isCommandRead_34 rfl rfl ?_
      refine V_gstN hM.1 fn_51 dX1_isCommandRead_35 ?_
      refine V_tlen hM.2 dX1_isCommandRead_38 ?_
      refine V_icmp_ge (tgt := 51) dX1_isCommandRead_39 (by decide) (fun h39 => by first | exact absurd h39 (nI_ge (by decide) (by decide)) | exact absurd (nI_ge (by decide) (by decide)) h39) (fun _ => ?_)
      refine V_aload_n (i := 0) dX1_isCommandRead_42 rfl rfl ?_
      refine V_getf fl_X1_29 dX1_isCommandRead_43 (hp11 hA) rfl ?_
      refine V_bipush (v := nI 30) dX1_isCommandRead_46 (by decide) ?_
      refine V_icmp_lt (tgt := 53) dX1_isCommandRead_48 (by decide) (fun _ => ?_) (fun h48 => by first | exact absurd ((by rw [nr_f (by decide), hc]; exact nI_lt hc30 (by decide))) h48 | exact absurd h48 ((by rw [nr_f (by decide), hc]; exact nI_lt hc30 (by decide))))
      refine V_aload_n (i := 0) dX1_isCommandRead_53 rfl rfl ?_
      refine V_dup dX1_isCommandRead_54 rfl ?_
      refine V_getf fl_X1_25 dX1_isCommandRead_55 (hp11 hA) rfl ?_
      refine V_iconst (v := 1) dX1_isCommandRead_58 (by decide) ?_
      refine V_iadd dX1_isCommandRead_59 ?_
      refine VNp (q := p + 1) fl_X1_25 dX1_isCommandRead_60 hA (by rw [nr_2]; exact nI_1 p) ?_
      refine V_aload_n (i := 0) dX1_isCommandRead_63 rfl rfl ?_
      refine V_gstN hF.1 fn_54 dX1_isCommandRead_64 ?_
      refine V_iload_n (i := 1) dX1_isCommandRead_67 rfl rfl ?_
      refine V_ti hF.2 (j := 6) rfl (by decide) (by decide) dX1_isCommandRead_68 ?_
      rw [show fdF 6 = nI 1 from rfl]
      refine Cv1_1 (d := 5) cv_X1_57 dX1_isCommandRead_69 (t_X1_isNumberRead hA hn hn6 (by omega) (by decide)) (hp11 hA) rfl rfl (Nat.le_of_ble_eq_true rfl) ⟨Nat.le_refl _, Nat.le_refl _⟩ (by decide) ⟨Nat.le_of_ble_eq_true rfl, Nat.le_of_ble_eq_true rfl⟩ ?_
      refine V_if_ne (tgt := 77) dX1_isCommandRead_72 (by decide) (fun h72 => ?_) (fun h72 => ?_)
      · replace h72 := bi_1.mp h72
        have hb1 := pNum_le (t := (σ.1 12 0)) (n := n) 1 (p + 1) 0
        refine V_aload_n (i := 0) dX1_isCommandRead_77 rfl rfl ?_
        refine V_getf fl_X1_61 dX1_isCommandRead_78 (hp11 hA) rfl ?_
        rw [nr_3]
        refine V_istore_n (i := 2) dX1_isCommandRead_81 rfl (by decide) ?_
        refine V_gstN hM.1 fn_51 dX1_isCommandRead_82 ?_
        refine V_iload_n (i := 1) dX1_isCommandRead_85 rfl rfl ?_
        refine V_tc hM.2 (j := 6) rfl (by decide) (by decide) dX1_isCommandRead_86 ?_
        rw [show mkF 6 = 0 from rfl]
        refine V_if_eq (tgt := 104) dX1_isCommandRead_87 (by decide) (fun _ => ?_) (fun h87 => by first | exact absurd ((by decide)) h87 | exact absurd h87 ((by decide)))
        refine V_aload_n (i := 0) dX1_isCommandRead_104 rfl rfl ?_
        refine V_gstN hSd.1 fn_64 dX1_isCommandRead_105 ?_
        refine V_iload_n (i := 1) dX1_isCommandRead_108 rfl rfl ?_
        refine V_ti hSd.2 (j := 6) rfl (by decide) (by decide) dX1_isCommandRead_109 ?_
        rw [show sdF 6 = nI 0 from rfl]
        refine Cv1_1 (d := 5) cv_X1_57 dX1_isCommandRead_110 (t_X1_isNumberRead hA hn hn6 (by omega) (by decide)) (hp11 hA) rfl rfl (Nat.le_of_ble_eq_true rfl) ⟨Nat.le_refl _, Nat.le_refl _⟩ (by decide) ⟨Nat.le_of_ble_eq_true rfl, Nat.le_of_ble_eq_true rfl⟩ ?_
        refine V_if_ne (tgt := 118) dX1_isCommandRead_113 (by decide) (fun _ => ?_) (fun h113 => by first | exact absurd ((by simp [bi])) h113 | exact absurd h113 ((by simp [bi])))
        refine V_aload_n (i := 0) dX1_isCommandRead_118 rfl rfl ?_
        refine V_getf fl_X1_15 dX1_isCommandRead_119 (hp11 hA) rfl ?_
        refine V_aload_n (i := 0) dX1_isCommandRead_122 rfl rfl ?_
        refine V_getf fl_X1_29 dX1_isCommandRead_123 (hp11 hA) rfl ?_
        refine V_iload_n (i := 1) dX1_isCommandRead_126 rfl rfl ?_
        refine VA_13 dX1_isCommandRead_127 hA ((nr_f (by decide)).trans hc) (by omega) ?_
        refine V_aload_n (i := 0) dX1_isCommandRead_128 rfl rfl ?_
        refine V_getf fl_X1_19 dX1_isCommandRead_129 (hp11 hA) rfl ?_
        refine V_aload_n (i := 0) dX1_isCommandRead_132 rfl rfl ?_
        refine V_getf fl_X1_29 dX1_isCommandRead_133 (hp11 hA) rfl ?_
        refine V_iload_n (i := 2) dX1_isCommandRead_136 rfl rfl ?_
        refine VA_14 dX1_isCommandRead_137 hA ((w3_ne (by omega)).trans ((nr_f (by decide)).trans hc)) (by omega) ?_
        refine V_aload_n (i := 0) dX1_isCommandRead_138 rfl rfl ?_
        refine V_getf fl_X1_22 dX1_isCommandRead_139 (hp11 hA) rfl ?_
        refine V_aload_n (i := 0) dX1_isCommandRead_142 rfl rfl ?_
        refine V_getf fl_X1_29 dX1_isCommandRead_143 (hp11 hA) rfl ?_
        refine V_aload_n (i := 0) dX1_isCommandRead_146 rfl rfl ?_
        refine V_getf fl_X1_61 dX1_isCommandRead_147 (hp11 hA) rfl ?_
        rw [show ∀ (s : Sg) (x y : Int32) (i j p : Nat) (v : Int32), (w3 (w3 (nrS s p v) 13 0 i x) 14 0 j y).1 11 0 3 = v from fun s x y i j p v => (w3_ne (by omega)).trans ((w3_ne (by omega)).trans nr_3)]
        refine VA_15 dX1_isCommandRead_150 hA ((w3_ne (by omega)).trans ((w3_ne (by omega)).trans ((nr_f (by decide)).trans hc))) (by omega) ?_
        refine V_aload_n (i := 0) dX1_isCommandRead_151 rfl rfl ?_
        refine V_dup dX1_isCommandRead_152 rfl ?_
        refine V_getf fl_X1_29 dX1_isCommandRead_153 (hp11 hA) rfl ?_
        refine V_iconst (v := 1) dX1_isCommandRead_156 (by decide) ?_
        refine V_iadd dX1_isCommandRead_157 ?_
        rw [show ∀ (s : Sg) (x y z : Int32) (i j k p : Nat) (v : Int32), (w3 (w3 (w3 (nrS s p v) 13 0 i x) 14 0 j y) 15 0 k z).1 11 0 1 + 1 = s.1 11 0 1 + 1 from fun s x y z i j k p v => congrArg (· + 1) ((w3_ne (by omega)).trans ((w3_ne (by omega)).trans ((w3_ne (by omega)).trans (nr_f (by decide))))), hc, show nI c + 1 = nI (c + 1) from nI_1 c]
        refine VP_11_5 fl_X1_29 dX1_isCommandRead_158 hA ?_
        refine V_iconst (v := 1) dX1_isCommandRead_161 (by decide) ?_
        refine V_zret dX1_isCommandRead_162 rfl (by first | rfl | exact bi_n _) (Nat.le_of_ble_eq_true rfl) (Nat.le_of_ble_eq_true rfl) ?_
        refine cp_yes ?_
        first
          | (simp [pCmd, hpk, fdN, mkN, sdN, *]; done)
          | (simp_all [pCmd, fdN, mkN, sdN, pNum]; done)
          | (simp_all [pCmd, fdN, mkN, sdN]; rfl)
      · replace h72 := bi_0.mp h72
        refine V_iconst (v := 0) dX1_isCommandRead_75 (by decide) ?_
        refine V_zret dX1_isCommandRead_76 rfl (by first | rfl | exact bi_n _) (Nat.le_of_ble_eq_true rfl) (Nat.le_of_ble_eq_true rfl) ?_
        refine cp_no (k := 0) (a := 0) (b := 0) ?_
        first
          | (simp [pCmd, hpk, fdN, mkN, sdN, *]; done)
          | (simp_all [pCmd, fdN, mkN, sdN]; done)
    · have hpk : pK (σ.1 12 0) n p = 7 := by rw [pK, if_pos hp, hx9]; rfl
      refine V_aload_n (i := 0) dX1_isCommandRead_0 rfl rfl ?_
      refine V_getf fl_X1_25 dX1_isCommandRead_1 (hp11 hA) rfl ?_
      refine V_aload_n (i := 0) dX1_isCommandRead_4 rfl rfl ?_
      refine V_getf fl_X1_36 dX1_isCommandRead_5 (hp11 hA) rfl ?_
      refine V_icmp_ge (tgt := 28) dX1_isCommandRead_8 (by decide) (fun h8 => by first | exact absurd h8 ((by rw [nr_2, nr_f (by decide), hn]; exact nI_ge (by omega) (by omega))) | exact absurd ((by rw [nr_2, nr_f (by decide), hn]; exact nI_ge (by omega) (by omega))) h8) (fun _ => ?_)
      refine V_ldcS hR dX1_isCommandRead_11 ?_
      refine V_aload_n (i := 0) dX1_isCommandRead_13 rfl rfl ?_
      refine V_getf fl_X1_9 dX1_isCommandRead_14 (hp11 hA) rfl ?_
      refine V_aload_n (i := 0) dX1_isCommandRead_17 rfl rfl ?_
      refine V_getf fl_X1_25 dX1_isCommandRead_18 (hp11 hA) rfl ?_
      refine V_cald9 dX1_isCommandRead_21 (hp12 hA) nr_2 (by omega) (by decide) (congrArg Value.int ((congrFun (congrFun (nr_a (by decide)) 0) _).trans hx9)) ?_
      refine Cb1_1 (d := 5) cv_X1_45 dX1_isCommandRead_22 (t_J0_indexOf_0f7a4 hs (by decide) (by decide)) hs.1 (Nat.le_of_ble_eq_true rfl) ⟨Nat.le_refl _, Nat.le_refl _⟩ (by decide) ⟨Nat.le_of_ble_eq_true rfl, Nat.le_of_ble_eq_true rfl⟩ ?_
      rw [show (if (0 : Int32) ≤ 100 ∧ (100 : Int32) ≤ 255 then fnd letF (100 : Int32).toInt8.toInt32 8 0 else -1) = nI 7 from by decide +kernel]
      refine V_goto (tgt := 29) dX1_isCommandRead_25 (by decide) ?_
      refine V_istore_n (i := 1) dX1_isCommandRead_29 rfl (by decide) ?_
      refine V_iload_n (i := 1) dX1_isCommandRead_30 rfl rfl ?_
      refine V_if_lt (tgt := 51) dX1_isCommandRead_31 (by decide) (fun h31 => by first | exact absurd h31 ((by decide)) | exact absurd ((by decide)) h31) (fun _ => ?_)
      refine V_iload_n (i := 1) dX1_isCommandRead_34 rfl rfl ?_
      refine V_gstN hM.1 fn_51 dX1_isCommandRead_35 ?_
      refine V_tlen hM.2 dX1_isCommandRead_38 ?_
      refine V_icmp_ge (tgt := 51) dX1_isCommandRead_39 (by decide) (fun h39 => by first | exact absurd h39 (nI_ge (by decide) (by decide)) | exact absurd (nI_ge (by decide) (by decide)) h39) (fun _ => ?_)
      refine V_aload_n (i := 0) dX1_isCommandRead_42 rfl rfl ?_
      refine V_getf fl_X1_29 dX1_isCommandRead_43 (hp11 hA) rfl ?_
      refine V_bipush (v := nI 30) dX1_isCommandRead_46 (by decide) ?_
      refine V_icmp_lt (tgt := 53) dX1_isCommandRead_48 (by decide) (fun _ => ?_) (fun h48 => by first | exact absurd ((by rw [nr_f (by decide), hc]; exact nI_lt hc30 (by decide))) h48 | exact absurd h48 ((by rw [nr_f (by decide), hc]; exact nI_lt hc30 (by decide))))
      refine V_aload_n (i := 0) dX1_isCommandRead_53 rfl rfl ?_
      refine V_dup dX1_isCommandRead_54 rfl ?_
      refine V_getf fl_X1_25 dX1_isCommandRead_55 (hp11 hA) rfl ?_
      refine V_iconst (v := 1) dX1_isCommandRead_58 (by decide) ?_
      refine V_iadd dX1_isCommandRead_59 ?_
      refine VNp (q := p + 1) fl_X1_25 dX1_isCommandRead_60 hA (by rw [nr_2]; exact nI_1 p) ?_
      refine V_aload_n (i := 0) dX1_isCommandRead_63 rfl rfl ?_
      refine V_gstN hF.1 fn_54 dX1_isCommandRead_64 ?_
      refine V_iload_n (i := 1) dX1_isCommandRead_67 rfl rfl ?_
      refine V_ti hF.2 (j := 7) rfl (by decide) (by decide) dX1_isCommandRead_68 ?_
      rw [show fdF 7 = nI 2 from rfl]
      refine Cv1_1 (d := 5) cv_X1_57 dX1_isCommandRead_69 (t_X1_isNumberRead hA hn hn6 (by omega) (by decide)) (hp11 hA) rfl rfl (Nat.le_of_ble_eq_true rfl) ⟨Nat.le_refl _, Nat.le_refl _⟩ (by decide) ⟨Nat.le_of_ble_eq_true rfl, Nat.le_of_ble_eq_true rfl⟩ ?_
      refine V_if_ne (tgt := 77) dX1_isCommandRead_72 (by decide) (fun h72 => ?_) (fun h72 => ?_)
      · replace h72 := bi_1.mp h72
        have hb1 := pNum_le (t := (σ.1 12 0)) (n := n) 2 (p + 1) 0
        refine V_aload_n (i := 0) dX1_isCommandRead_77 rfl rfl ?_
        refine V_getf fl_X1_61 dX1_isCommandRead_78 (hp11 hA) rfl ?_
        rw [nr_3]
        refine V_istore_n (i := 2) dX1_isCommandRead_81 rfl (by decide) ?_
        refine V_gstN hM.1 fn_51 dX1_isCommandRead_82 ?_
        refine V_iload_n (i := 1) dX1_isCommandRead_85 rfl rfl ?_
        refine V_tc hM.2 (j := 7) rfl (by decide) (by decide) dX1_isCommandRead_86 ?_
        rw [show mkF 7 = 0 from rfl]
        refine V_if_eq (tgt := 104) dX1_isCommandRead_87 (by decide) (fun _ => ?_) (fun h87 => by first | exact absurd ((by decide)) h87 | exact absurd h87 ((by decide)))
        refine V_aload_n (i := 0) dX1_isCommandRead_104 rfl rfl ?_
        refine V_gstN hSd.1 fn_64 dX1_isCommandRead_105 ?_
        refine V_iload_n (i := 1) dX1_isCommandRead_108 rfl rfl ?_
        refine V_ti hSd.2 (j := 7) rfl (by decide) (by decide) dX1_isCommandRead_109 ?_
        rw [show sdF 7 = nI 0 from rfl]
        refine Cv1_1 (d := 5) cv_X1_57 dX1_isCommandRead_110 (t_X1_isNumberRead hA hn hn6 (by omega) (by decide)) (hp11 hA) rfl rfl (Nat.le_of_ble_eq_true rfl) ⟨Nat.le_refl _, Nat.le_refl _⟩ (by decide) ⟨Nat.le_of_ble_eq_true rfl, Nat.le_of_ble_eq_true rfl⟩ ?_
        refine V_if_ne (tgt := 118) dX1_isCommandRead_113 (by decide) (fun _ => ?_) (fun h113 => by first | exact absurd ((by simp [bi])) h113 | exact absurd h113 ((by simp [bi])))
        refine V_aload_n (i := 0) dX1_isCommandRead_118 rfl rfl ?_
        refine V_getf fl_X1_15 dX1_isCommandRead_119 (hp11 hA) rfl ?_
        refine V_aload_n (i := 0) dX1_isCommandRead_122 rfl rfl ?_
        refine V_getf fl_X1_29 dX1_isCommandRead_123 (hp11 hA) rfl ?_
        refine V_iload_n (i := 1) dX1_isCommandRead_126 rfl rfl ?_
        refine VA_13 dX1_isCommandRead_127 hA ((nr_f (by decide)).trans hc) (by omega) ?_
        refine V_aload_n (i := 0) dX1_isCommandRead_128 rfl rfl ?_
        refine V_getf fl_X1_19 dX1_isCommandRead_129 (hp11 hA) rfl ?_
        refine V_aload_n (i := 0) dX1_isCommandRead_132 rfl rfl ?_
        refine V_getf fl_X1_29 dX1_isCommandRead_133 (hp11 hA) rfl ?_
        refine V_iload_n (i := 2) dX1_isCommandRead_136 rfl rfl ?_
        refine VA_14 dX1_isCommandRead_137 hA ((w3_ne (by omega)).trans ((nr_f (by decide)).trans hc)) (by omega) ?_
        refine V_aload_n (i := 0) dX1_isCommandRead_138 rfl rfl ?_
        refine V_getf fl_X1_22 dX1_isCommandRead_139 (hp11 hA) rfl ?_
        refine V_aload_n (i := 0) dX1_isCommandRead_142 rfl rfl ?_
        refine V_getf fl_X1_29 dX1_isCommandRead_143 (hp11 hA) rfl ?_
        refine V_aload_n (i := 0) dX1_isCommandRead_146 rfl rfl ?_
        refine V_getf fl_X1_61 dX1_isCommandRead_147 (hp11 hA) rfl ?_
        rw [show ∀ (s : Sg) (x y : Int32) (i j p : Nat) (v : Int32), (w3 (w3 (nrS s p v) 13 0 i x) 14 0 j y).1 11 0 3 = v from fun s x y i j p v => (w3_ne (by omega)).trans ((w3_ne (by omega)).trans nr_3)]
        refine VA_15 dX1_isCommandRead_150 hA ((w3_ne (by omega)).trans ((w3_ne (by omega)).trans ((nr_f (by decide)).trans hc))) (by omega) ?_
        refine V_aload_n (i := 0) dX1_isCommandRead_151 rfl rfl ?_
        refine V_dup dX1_isCommandRead_152 rfl ?_
        refine V_getf fl_X1_29 dX1_isCommandRead_153 (hp11 hA) rfl ?_
        refine V_iconst (v := 1) dX1_isCommandRead_156 (by decide) ?_
        refine V_iadd dX1_isCommandRead_157 ?_
        rw [show ∀ (s : Sg) (x y z : Int32) (i j k p : Nat) (v : Int32), (w3 (w3 (w3 (nrS s p v) 13 0 i x) 14 0 j y) 15 0 k z).1 11 0 1 + 1 = s.1 11 0 1 + 1 from fun s x y z i j k p v => congrArg (· + 1) ((w3_ne (by omega)).trans ((w3_ne (by omega)).trans ((w3_ne (by omega)).trans (nr_f (by decide))))), hc, show nI c + 1 = nI (c + 1) from nI_1 c]
        refine VP_11_5 fl_X1_29 dX1_isCommandRead_158 hA ?_
        refine V_iconst (v := 1) dX1_isCommandRead_161 (by decide) ?_
        refine V_zret dX1_isCommandRead_162 rfl (by first | rfl | exact bi_n _) (Nat.le_of_ble_eq_true rfl) (Nat.le_of_ble_eq_true rfl) ?_
        refine cp_yes ?_
        first
          | (simp [pCmd, hpk, fdN, mkN, sdN, *]; done)
          | (simp_all [pCmd, fdN, mkN, sdN, pNum]; done)
          | (simp_all [pCmd, fdN, mkN, sdN]; rfl)
      · replace h72 := bi_0.mp h72
        refine V_iconst (v := 0) dX1_isCommandRead_75 (by decide) ?_
        refine V_zret dX1_isCommandRead_76 rfl (by first | rfl | exact bi_n _) (Nat.le_of_ble_eq_true rfl) (Nat.le_of_ble_eq_true rfl) ?_
        refine cp_no (k := 0) (a := 0) (b := 0) ?_
        first
          | (simp [pCmd, hpk, fdN, mkN, sdN, *]; done)
          | (simp_all [pCmd, fdN, mkN, sdN]; done)
    · have hpk : pK (σ.1 12 0) n p = 8 := by rw [pK, if_pos hp]; exact hk8
      have hx9 := hx8
      rw [hx9] at hk8
      refine V_aload_n (i := 0) dX1_isCommandRead_0 rfl rfl ?_
      refine V_getf fl_X1_25 dX1_isCommandRead_1 (hp11 hA) rfl ?_
      refine V_aload_n (i := 0) dX1_isCommandRead_4 rfl rfl ?_
      refine V_getf fl_X1_36 dX1_isCommandRead_5 (hp11 hA) rfl ?_
      refine V_icmp_ge (tgt := 28) dX1_isCommandRead_8 (by decide) (fun h8 => by first | exact absurd h8 ((by rw [nr_2, nr_f (by decide), hn]; exact nI_ge (by omega) (by omega))) | exact absurd ((by rw [nr_2, nr_f (by decide), hn]; exact nI_ge (by omega) (by omega))) h8) (fun _ => ?_)
      refine V_ldcS hR dX1_isCommandRead_11 ?_
      refine V_aload_n (i := 0) dX1_isCommandRead_13 rfl rfl ?_
      refine V_getf fl_X1_9 dX1_isCommandRead_14 (hp11 hA) rfl ?_
      refine V_aload_n (i := 0) dX1_isCommandRead_17 rfl rfl ?_
      refine V_getf fl_X1_25 dX1_isCommandRead_18 (hp11 hA) rfl ?_
      refine V_cald9 dX1_isCommandRead_21 (hp12 hA) nr_2 (by omega) (by decide) (congrArg Value.int ((congrFun (congrFun (nr_a (by decide)) 0) _).trans hx9)) ?_
      refine Cb1_1 (d := 5) cv_X1_45 dX1_isCommandRead_22 (t_J0_indexOf_0f7a4 hs (by decide) (by decide)) hs.1 (Nat.le_of_ble_eq_true rfl) ⟨Nat.le_refl _, Nat.le_refl _⟩ (by decide) ⟨Nat.le_of_ble_eq_true rfl, Nat.le_of_ble_eq_true rfl⟩ ?_
      rw [idx_none hlt hk8]
      refine V_goto (tgt := 29) dX1_isCommandRead_25 (by decide) ?_
      refine V_istore_n (i := 1) dX1_isCommandRead_29 rfl (by decide) ?_
      refine V_iload_n (i := 1) dX1_isCommandRead_30 rfl rfl ?_
      refine V_if_lt (tgt := 51) dX1_isCommandRead_31 (by decide) (fun _ => ?_) (fun h31 => by first | exact absurd ((by decide)) h31 | exact absurd h31 ((by decide)))
      refine V_iconst (v := 0) dX1_isCommandRead_51 (by decide) ?_
      refine V_zret dX1_isCommandRead_52 rfl (by first | rfl | exact bi_n _) (Nat.le_of_ble_eq_true rfl) (Nat.le_of_ble_eq_true rfl) ?_
      refine cp_no (k := 0) (a := 0) (b := 0) ?_
      first
        | (simp [pCmd, hpk, fdN, mkN, sdN, *]; done)
        | (simp_all [pCmd, fdN, mkN, sdN]; done)
  · have hpk : pK (σ.1 12 0) n p = 8 := if_neg hp
    refine V_aload_n (i := 0) dX1_isCommandRead_0 rfl rfl ?_
    refine V_getf fl_X1_25 dX1_isCommandRead_1 (hp11 hA) rfl ?_
    refine V_aload_n (i := 0) dX1_isCommandRead_4 rfl rfl ?_
    refine V_getf fl_X1_36 dX1_isCommandRead_5 (hp11 hA) rfl ?_
    refine V_icmp_ge (tgt := 28) dX1_isCommandRead_8 (by decide) (fun _ => ?_) (fun h8 => by first | exact absurd ((by rw [nr_2, nr_f (by decide), hn]; exact nI_le (by omega) (by omega))) h8 | exact absurd h8 ((by rw [nr_2, nr_f (by decide), hn]; exact nI_le (by omega) (by omega))))
    refine V_iconst (v := (-1)) dX1_isCommandRead_28 (by decide) ?_
    refine V_istore_n (i := 1) dX1_isCommandRead_29 rfl (by decide) ?_
    refine V_iload_n (i := 1) dX1_isCommandRead_30 rfl rfl ?_
    refine V_if_lt (tgt := 51) dX1_isCommandRead_31 (by decide) (fun _ => ?_) (fun h31 => by first | exact absurd ((by decide)) h31 | exact absurd h31 ((by decide)))
    refine V_iconst (v := 0) dX1_isCommandRead_51 (by decide) ?_
    refine V_zret dX1_isCommandRead_52 rfl (by first | rfl | exact bi_n _) (Nat.le_of_ble_eq_true rfl) (Nat.le_of_ble_eq_true rfl) ?_
    refine cp_no (k := 0) (a := 0) (b := 0) ?_
    first
      | (simp [pCmd, hpk, fdN, mkN, sdN, *]; done)
      | (simp_all [pCmd, fdN, mkN, sdN]; done)

