/-! the law: a deed -/
/-- what a deed of the kind wt leaves, if it is not refused -/
def spV (wt : Nat) (w w' : Nat → Int32) : Int32 := if wt = 12 then w' 8 - w 8 else if wt = 16 then 4 else 0
def DY (A : AT) (σ : Sg) (m nh nc wt : Nat) : Option Value → GH → Prop := fun r G' => ∃ (σ' : Sg) (k nh' nc' : Nat), r = some (.int (nI k)) ∧ k < 100000 ∧ G' = HP A σ' ∧ (nh ≤ nh' ∧ nc ≤ nc') ∧ FK σ' (m + 1) nh' nc' ∧ DL (σ.1 5 0) (σ'.1 5 0) (spV wt (σ.1 5 0) (σ'.1 5 0))
def DX (A : AT) (σ : Sg) (m nh nc : Nat) : String → GH → Prop := fun E G' => E = "java/lang/UnsupportedOperationException" ∧ ∃ σ' : Sg, G' = HP A σ' ∧ FK σ' m nh nc ∧ σ'.1 5 0 = σ.1 5 0
theorem DY.of {A : AT} {σ : Sg} {S : ST} {m nh nc wt : Nat} {V : (Nat → Int32) → Int32} (hV : ∀ w', V w' = spV wt (σ.1 5 0) w') {r : Option Value} {G' : GH} (h : PY A σ S m nh nc V r G') : DY A σ m nh nc wt r G' := by
  obtain ⟨σ', k, nh', nc', h1, h2, h3, h4, h5, h6, -⟩ := h
  exact ⟨σ', k, nh', nc', h1, h2, h3, h4, h5, by rw [← hV]; exact h6⟩
theorem DX.of {A : AT} {σ : Sg} {S : ST} {m nh nc : Nat} {E : String} {G' : GH} (h : PN A σ S m nh nc E G') : DX A σ m nh nc E G' := by
  obtain ⟨h1, -, h2⟩ := h
  exact ⟨h1, h2⟩

set_option maxHeartbeats 4000000 in
set_option maxRecDepth 100000 in
theorem t_L_done {D : va_G} {s0 : State} {l : Launch} {B : Nat} {A : AT} {σ : Sg} (hA : AOK B A) (hl : l.stackTraces = false) {b L : Nat} {xs : Nat → Int32} (hT : va_T .int b L (fun j => .int (xs j)) (bA s0) s0 s0.heap) (hL : L ≤ 260) {m nh nc : Nat} (hF : FK σ m nh nc) (hm : m ≤ 1000) (hh1 : 1 ≤ nh) (hc1 : 1 ≤ nc) {xi : Int32} {i wt : Nat} (hi : xi = nI i) (hi9 : i < 900) (hw : wt < 24) : Tri D s0 l yL_done cL_done 6 ((some .int)) 5 1 6 [.ref (A 0 0 0), .ref b, .int xi, .int (nI wt)] (HP A σ) (DY A σ m nh nc wt) (DX A σ m nh nc) := by
  subst hi
  obtain ⟨-, -, ⟨h1, hn⟩, ⟨h2, hc⟩, ⟨pl, h3, hp⟩, -⟩ := id hF
  refine Tri.ofV (own := RL) (mn := "done") (by decide +kernel) rfl rfl (Nat.le_of_ble_eq_true rfl) ?_
  refine V_aload_n (i := 1) dL_done_0 rfl rfl ?_
  refine V_iload_n (i := 2) dL_done_1 rfl rfl ?_
  refine V_iconst (v := (nI 1)) dL_done_2 (by decide) ?_
  refine V_iadd dL_done_3 ?_
  refine V_aload_n (i := 0) dL_done_4 rfl rfl ?_
  refine V_iconst (v := (nI 2)) dL_done_5 (by decide) ?_
  refine Cv1_1 (d := 5) cv_L_38 dL_done_6 (q_X7_account hA h1 hn (q := 2) (by decide)) (hp0 hA) rfl rfl (Nat.le_of_ble_eq_true rfl) ⟨Nat.le_refl _, Nat.le_refl _⟩ (by decide) ⟨Nat.le_of_ble_eq_true rfl, Nat.le_of_ble_eq_true rfl⟩ ?_
  refine V_callsE (d := 5) cs_L_15 dL_done_9 (t_L_pick hA hT hL (nI_add i 1) (by omega) (show S_num (σ.1 5 0) nh 2 = nI nc from h2) hc1 (by omega)) rfl rfl (Nat.le_of_ble_eq_true rfl) ⟨Nat.le_refl _, Nat.le_refl _⟩ (by decide) ⟨(Nat.le_of_ble_eq_true rfl), (Nat.le_of_ble_eq_true rfl)⟩ (fun v9 h9 => ?_)
  obtain ⟨v, hv, rfl⟩ := h9
  refine V_istore (i := 4) dL_done_12 (by decide) ?_
  refine V_aload_n (i := 1) dL_done_14 rfl rfl ?_
  refine V_iload_n (i := 2) dL_done_15 rfl rfl ?_
  refine V_iconst (v := (nI 2)) dL_done_16 (by decide) ?_
  refine V_iadd dL_done_17 ?_
  refine V_aload_n (i := 0) dL_done_18 rfl rfl ?_
  refine V_iconst (v := (nI 1)) dL_done_19 (by decide) ?_
  refine Cv1_1 (d := 5) cv_L_38 dL_done_20 (q_X7_account hA h1 hn (q := 1) (by decide)) (hp0 hA) rfl rfl (Nat.le_of_ble_eq_true rfl) ⟨Nat.le_refl _, Nat.le_refl _⟩ (by decide) ⟨Nat.le_of_ble_eq_true rfl, Nat.le_of_ble_eq_true rfl⟩ ?_
  refine V_callsE (d := 5) cs_L_15 dL_done_23 (t_L_pick hA hT hL (nI_add i 2) (by omega) (show S_num (σ.1 5 0) nh 1 = nI nh from h1) hh1 (by omega)) rfl rfl (Nat.le_of_ble_eq_true rfl) ⟨Nat.le_refl _, Nat.le_refl _⟩ (by decide) ⟨(Nat.le_of_ble_eq_true rfl), (Nat.le_of_ble_eq_true rfl)⟩ (fun v9 h9 => ?_)
  obtain ⟨v, hv, rfl⟩ := h9
  refine V_istore (i := 5) dL_done_26 (by decide) ?_
  refine V_iload_n (i := 3) dL_done_28 rfl rfl ?_
  rcases (by omega : wt = 0 ∨ wt = 1 ∨ wt = 2 ∨ wt = 3 ∨ wt = 4 ∨ wt = 5 ∨ wt = 6 ∨ wt = 7 ∨ wt = 8 ∨ wt = 9 ∨ wt = 10 ∨ wt = 11 ∨ wt = 12 ∨ wt = 13 ∨ wt = 14 ∨ wt = 15 ∨ wt = 16 ∨ wt = 17 ∨ wt = 18 ∨ wt = 19 ∨ wt = 20 ∨ wt = 21 ∨ wt = 22 ∨ wt = 23) with rfl | rfl | rfl | rfl | rfl | rfl | rfl | rfl | rfl | rfl | rfl | rfl | rfl | rfl | rfl | rfl | rfl | rfl | rfl | rfl | rfl | rfl | rfl | rfl
  · refine V_tableIn (tgt := 120) dL_done_29 (by decide) (by decide) rfl (by decide) ?_
    refine V_aload_n (i := 0) dL_done_120 rfl rfl ?_
    refine V_aload_n (i := 1) dL_done_121 rfl rfl ?_
    refine V_iload_n (i := 2) dL_done_122 rfl rfl ?_
    refine V_iconst (v := (nI 1)) dL_done_123 (by decide) ?_
    refine V_iadd dL_done_124 ?_
    refine V_aload_n (i := 0) dL_done_125 rfl rfl ?_
    refine V_iconst (v := (nI 1)) dL_done_126 (by decide) ?_
    refine Cv1_1 (d := 5) cv_L_38 dL_done_127 (q_X7_account hA h1 hn (q := 1) (by decide)) (hp0 hA) rfl rfl (Nat.le_of_ble_eq_true rfl) ⟨Nat.le_refl _, Nat.le_refl _⟩ (by decide) ⟨Nat.le_of_ble_eq_true rfl, Nat.le_of_ble_eq_true rfl⟩ ?_
    refine V_iconst (v := (nI 1)) dL_done_130 (by decide) ?_
    refine V_iadd dL_done_131 ?_
    refine V_callsE (d := 5) cs_L_15 dL_done_132 (t_L_pick hA hT hL (nI_add i 1) (by omega) (by rw [show S_num (σ.1 5 0) nh 1 = nI nh from h1]; exact nI_add nh 1 : _ = nI (nh + 1)) (Nat.succ_pos nh) (by omega)) rfl rfl (Nat.le_of_ble_eq_true rfl) ⟨Nat.le_refl _, Nat.le_refl _⟩ (by decide) ⟨(Nat.le_of_ble_eq_true rfl), (Nat.le_of_ble_eq_true rfl)⟩ (fun v9 h9 => ?_)
    obtain ⟨v, hv, rfl⟩ := h9
    refine V_call (d := 5) cv_L_41 dL_done_135 (g_X7_drive hA hl hF hm) (hp0 hA) rfl rfl rfl rfl (Nat.le_of_ble_eq_true rfl) ⟨Nat.le_refl _, Nat.le_refl _⟩ (by decide) ⟨(Nat.le_of_ble_eq_true rfl), (Nat.le_of_ble_eq_true rfl)⟩ (fun r G' h => ?_) (fun E G' h => ?_)
    · obtain ⟨σ', k9, nh', nc', rfl, e1, rfl, e3, e4, e5, -⟩ := h
      refine V_iret dL_done_138 rfl (Nat.le_of_ble_eq_true rfl) (Nat.le_of_ble_eq_true rfl) ?_
      exact ⟨σ', k9, nh', nc', rfl, e1, rfl, e3, e4, e5⟩
    · exact VX_out rfl (Nat.le_of_ble_eq_true rfl) (Nat.le_of_ble_eq_true rfl) (DX.of h)
  · refine V_tableIn (tgt := 120) dL_done_29 (by decide) (by decide) rfl (by decide) ?_
    refine V_aload_n (i := 0) dL_done_120 rfl rfl ?_
    refine V_aload_n (i := 1) dL_done_121 rfl rfl ?_
    refine V_iload_n (i := 2) dL_done_122 rfl rfl ?_
    refine V_iconst (v := (nI 1)) dL_done_123 (by decide) ?_
    refine V_iadd dL_done_124 ?_
    refine V_aload_n (i := 0) dL_done_125 rfl rfl ?_
    refine V_iconst (v := (nI 1)) dL_done_126 (by decide) ?_
    refine Cv1_1 (d := 5) cv_L_38 dL_done_127 (q_X7_account hA h1 hn (q := 1) (by decide)) (hp0 hA) rfl rfl (Nat.le_of_ble_eq_true rfl) ⟨Nat.le_refl _, Nat.le_refl _⟩ (by decide) ⟨Nat.le_of_ble_eq_true rfl, Nat.le_of_ble_eq_true rfl⟩ ?_
    refine V_iconst (v := (nI 1)) dL_done_130 (by decide) ?_
    refine V_iadd dL_done_131 ?_
    refine V_callsE (d := 5) cs_L_15 dL_done_132 (t_L_pick hA hT hL (nI_add i 1) (by omega) (by rw [show S_num (σ.1 5 0) nh 1 = nI nh from h1]; exact nI_add nh 1 : _ = nI (nh + 1)) (Nat.succ_pos nh) (by omega)) rfl rfl (Nat.le_of_ble_eq_true rfl) ⟨Nat.le_refl _, Nat.le_refl _⟩ (by decide) ⟨(Nat.le_of_ble_eq_true rfl), (Nat.le_of_ble_eq_true rfl)⟩ (fun v9 h9 => ?_)
    obtain ⟨v, hv, rfl⟩ := h9
    refine V_call (d := 5) cv_L_41 dL_done_135 (g_X7_drive hA hl hF hm) (hp0 hA) rfl rfl rfl rfl (Nat.le_of_ble_eq_true rfl) ⟨Nat.le_refl _, Nat.le_refl _⟩ (by decide) ⟨(Nat.le_of_ble_eq_true rfl), (Nat.le_of_ble_eq_true rfl)⟩ (fun r G' h => ?_) (fun E G' h => ?_)
    · obtain ⟨σ', k9, nh', nc', rfl, e1, rfl, e3, e4, e5, -⟩ := h
      refine V_iret dL_done_138 rfl (Nat.le_of_ble_eq_true rfl) (Nat.le_of_ble_eq_true rfl) ?_
      exact ⟨σ', k9, nh', nc', rfl, e1, rfl, e3, e4, e5⟩
    · exact VX_out rfl (Nat.le_of_ble_eq_true rfl) (Nat.le_of_ble_eq_true rfl) (DX.of h)
  · refine V_tableIn (tgt := 120) dL_done_29 (by decide) (by decide) rfl (by decide) ?_
    refine V_aload_n (i := 0) dL_done_120 rfl rfl ?_
    refine V_aload_n (i := 1) dL_done_121 rfl rfl ?_
    refine V_iload_n (i := 2) dL_done_122 rfl rfl ?_
    refine V_iconst (v := (nI 1)) dL_done_123 (by decide) ?_
    refine V_iadd dL_done_124 ?_
    refine V_aload_n (i := 0) dL_done_125 rfl rfl ?_
    refine V_iconst (v := (nI 1)) dL_done_126 (by decide) ?_
    refine Cv1_1 (d := 5) cv_L_38 dL_done_127 (q_X7_account hA h1 hn (q := 1) (by decide)) (hp0 hA) rfl rfl (Nat.le_of_ble_eq_true rfl) ⟨Nat.le_refl _, Nat.le_refl _⟩ (by decide) ⟨Nat.le_of_ble_eq_true rfl, Nat.le_of_ble_eq_true rfl⟩ ?_
    refine V_iconst (v := (nI 1)) dL_done_130 (by decide) ?_
    refine V_iadd dL_done_131 ?_
    refine V_callsE (d := 5) cs_L_15 dL_done_132 (t_L_pick hA hT hL (nI_add i 1) (by omega) (by rw [show S_num (σ.1 5 0) nh 1 = nI nh from h1]; exact nI_add nh 1 : _ = nI (nh + 1)) (Nat.succ_pos nh) (by omega)) rfl rfl (Nat.le_of_ble_eq_true rfl) ⟨Nat.le_refl _, Nat.le_refl _⟩ (by decide) ⟨(Nat.le_of_ble_eq_true rfl), (Nat.le_of_ble_eq_true rfl)⟩ (fun v9 h9 => ?_)
    obtain ⟨v, hv, rfl⟩ := h9
    refine V_call (d := 5) cv_L_41 dL_done_135 (g_X7_drive hA hl hF hm) (hp0 hA) rfl rfl rfl rfl (Nat.le_of_ble_eq_true rfl) ⟨Nat.le_refl _, Nat.le_refl _⟩ (by decide) ⟨(Nat.le_of_ble_eq_true rfl), (Nat.le_of_ble_eq_true rfl)⟩ (fun r G' h => ?_) (fun E G' h => ?_)
    · obtain ⟨σ', k9, nh', nc', rfl, e1, rfl, e3, e4, e5, -⟩ := h
      refine V_iret dL_done_138 rfl (Nat.le_of_ble_eq_true rfl) (Nat.le_of_ble_eq_true rfl) ?_
      exact ⟨σ', k9, nh', nc', rfl, e1, rfl, e3, e4, e5⟩
    · exact VX_out rfl (Nat.le_of_ble_eq_true rfl) (Nat.le_of_ble_eq_true rfl) (DX.of h)
  · refine V_tableIn (tgt := 139) dL_done_29 (by decide) (by decide) rfl (by decide) ?_
    refine V_aload_n (i := 0) dL_done_139 rfl rfl ?_
    refine V_iconst (v := (nI 1)) dL_done_140 (by decide) ?_
    refine V_aload_n (i := 1) dL_done_141 rfl rfl ?_
    refine V_iload_n (i := 2) dL_done_142 rfl rfl ?_
    refine V_iconst (v := (nI 2)) dL_done_143 (by decide) ?_
    refine V_iadd dL_done_144 ?_
    refine V_bipush (v := (nI 20)) dL_done_145 (by decide) ?_
    refine V_callsE (d := 5) cs_L_15 dL_done_147 (t_L_pick hA hT hL (nI_add i 2) (by omega) (rfl : nI 20 = nI 20) (by decide) (by decide)) rfl rfl (Nat.le_of_ble_eq_true rfl) ⟨Nat.le_refl _, Nat.le_refl _⟩ (by decide) ⟨(Nat.le_of_ble_eq_true rfl), (Nat.le_of_ble_eq_true rfl)⟩ (fun v9 h9 => ?_)
    obtain ⟨v, hv, rfl⟩ := h9
    refine V_iadd dL_done_150 ?_
    refine V_call (d := 5) cv_L_35 dL_done_151 (g_X7_load hA hl hF hm) (hp0 hA) rfl rfl rfl rfl (Nat.le_of_ble_eq_true rfl) ⟨Nat.le_refl _, Nat.le_refl _⟩ (by decide) ⟨(Nat.le_of_ble_eq_true rfl), (Nat.le_of_ble_eq_true rfl)⟩ (fun r G' h => ?_) (fun E G' h => ?_)
    · obtain ⟨σ', k9, nh', nc', rfl, e1, rfl, e3, e4, e5, -⟩ := h
      refine V_iret dL_done_154 rfl (Nat.le_of_ble_eq_true rfl) (Nat.le_of_ble_eq_true rfl) ?_
      exact ⟨σ', k9, nh', nc', rfl, e1, rfl, e3, e4, e5⟩
    · exact VX_out rfl (Nat.le_of_ble_eq_true rfl) (Nat.le_of_ble_eq_true rfl) (DX.of h)
  · refine V_tableIn (tgt := 139) dL_done_29 (by decide) (by decide) rfl (by decide) ?_
    refine V_aload_n (i := 0) dL_done_139 rfl rfl ?_
    refine V_iconst (v := (nI 1)) dL_done_140 (by decide) ?_
    refine V_aload_n (i := 1) dL_done_141 rfl rfl ?_
    refine V_iload_n (i := 2) dL_done_142 rfl rfl ?_
    refine V_iconst (v := (nI 2)) dL_done_143 (by decide) ?_
    refine V_iadd dL_done_144 ?_
    refine V_bipush (v := (nI 20)) dL_done_145 (by decide) ?_
    refine V_callsE (d := 5) cs_L_15 dL_done_147 (t_L_pick hA hT hL (nI_add i 2) (by omega) (rfl : nI 20 = nI 20) (by decide) (by decide)) rfl rfl (Nat.le_of_ble_eq_true rfl) ⟨Nat.le_refl _, Nat.le_refl _⟩ (by decide) ⟨(Nat.le_of_ble_eq_true rfl), (Nat.le_of_ble_eq_true rfl)⟩ (fun v9 h9 => ?_)
    obtain ⟨v, hv, rfl⟩ := h9
    refine V_iadd dL_done_150 ?_
    refine V_call (d := 5) cv_L_35 dL_done_151 (g_X7_load hA hl hF hm) (hp0 hA) rfl rfl rfl rfl (Nat.le_of_ble_eq_true rfl) ⟨Nat.le_refl _, Nat.le_refl _⟩ (by decide) ⟨(Nat.le_of_ble_eq_true rfl), (Nat.le_of_ble_eq_true rfl)⟩ (fun r G' h => ?_) (fun E G' h => ?_)
    · obtain ⟨σ', k9, nh', nc', rfl, e1, rfl, e3, e4, e5, -⟩ := h
      refine V_iret dL_done_154 rfl (Nat.le_of_ble_eq_true rfl) (Nat.le_of_ble_eq_true rfl) ?_
      exact ⟨σ', k9, nh', nc', rfl, e1, rfl, e3, e4, e5⟩
    · exact VX_out rfl (Nat.le_of_ble_eq_true rfl) (Nat.le_of_ble_eq_true rfl) (DX.of h)
  · refine V_tableIn (tgt := 155) dL_done_29 (by decide) (by decide) rfl (by decide) ?_
    refine V_aload_n (i := 0) dL_done_155 rfl rfl ?_
    refine V_iload (i := 4) dL_done_156 rfl ?_
    refine V_iconst (v := (nI 1)) dL_done_158 (by decide) ?_
    refine V_aload_n (i := 1) dL_done_159 rfl rfl ?_
    refine V_iload_n (i := 2) dL_done_160 rfl rfl ?_
    refine V_iconst (v := (nI 2)) dL_done_161 (by decide) ?_
    refine V_iadd dL_done_162 ?_
    refine V_iconst (v := (nI 4)) dL_done_163 (by decide) ?_
    refine V_callsE (d := 5) cs_L_15 dL_done_164 (t_L_pick hA hT hL (nI_add i 2) (by omega) (rfl : nI 4 = nI 4) (by decide) (by decide)) rfl rfl (Nat.le_of_ble_eq_true rfl) ⟨Nat.le_refl _, Nat.le_refl _⟩ (by decide) ⟨(Nat.le_of_ble_eq_true rfl), (Nat.le_of_ble_eq_true rfl)⟩ (fun v9 h9 => ?_)
    obtain ⟨v, hv, rfl⟩ := h9
    refine V_iadd dL_done_167 ?_
    refine V_call (d := 5) cv_L_44 dL_done_168 (g_X7_carry hA hl hF hm h3 hp) (hp0 hA) rfl rfl rfl rfl (Nat.le_of_ble_eq_true rfl) ⟨Nat.le_refl _, Nat.le_refl _⟩ (by decide) ⟨(Nat.le_of_ble_eq_true rfl), (Nat.le_of_ble_eq_true rfl)⟩ (fun r G' h => ?_) (fun E G' h => ?_)
    · obtain ⟨σ', k9, nh', nc', rfl, e1, rfl, e3, e4, e5, -⟩ := h
      refine V_iret dL_done_171 rfl (Nat.le_of_ble_eq_true rfl) (Nat.le_of_ble_eq_true rfl) ?_
      exact ⟨σ', k9, nh', nc', rfl, e1, rfl, e3, e4, e5⟩
    · exact VX_out rfl (Nat.le_of_ble_eq_true rfl) (Nat.le_of_ble_eq_true rfl) (DX.of h)
  · refine V_tableIn (tgt := 155) dL_done_29 (by decide) (by decide) rfl (by decide) ?_
    refine V_aload_n (i := 0) dL_done_155 rfl rfl ?_
    refine V_iload (i := 4) dL_done_156 rfl ?_
    refine V_iconst (v := (nI 1)) dL_done_158 (by decide) ?_
    refine V_aload_n (i := 1) dL_done_159 rfl rfl ?_
    refine V_iload_n (i := 2) dL_done_160 rfl rfl ?_
    refine V_iconst (v := (nI 2)) dL_done_161 (by decide) ?_
    refine V_iadd dL_done_162 ?_
    refine V_iconst (v := (nI 4)) dL_done_163 (by decide) ?_
    refine V_callsE (d := 5) cs_L_15 dL_done_164 (t_L_pick hA hT hL (nI_add i 2) (by omega) (rfl : nI 4 = nI 4) (by decide) (by decide)) rfl rfl (Nat.le_of_ble_eq_true rfl) ⟨Nat.le_refl _, Nat.le_refl _⟩ (by decide) ⟨(Nat.le_of_ble_eq_true rfl), (Nat.le_of_ble_eq_true rfl)⟩ (fun v9 h9 => ?_)
    obtain ⟨v, hv, rfl⟩ := h9
    refine V_iadd dL_done_167 ?_
    refine V_call (d := 5) cv_L_44 dL_done_168 (g_X7_carry hA hl hF hm h3 hp) (hp0 hA) rfl rfl rfl rfl (Nat.le_of_ble_eq_true rfl) ⟨Nat.le_refl _, Nat.le_refl _⟩ (by decide) ⟨(Nat.le_of_ble_eq_true rfl), (Nat.le_of_ble_eq_true rfl)⟩ (fun r G' h => ?_) (fun E G' h => ?_)
    · obtain ⟨σ', k9, nh', nc', rfl, e1, rfl, e3, e4, e5, -⟩ := h
      refine V_iret dL_done_171 rfl (Nat.le_of_ble_eq_true rfl) (Nat.le_of_ble_eq_true rfl) ?_
      exact ⟨σ', k9, nh', nc', rfl, e1, rfl, e3, e4, e5⟩
    · exact VX_out rfl (Nat.le_of_ble_eq_true rfl) (Nat.le_of_ble_eq_true rfl) (DX.of h)
  · refine V_tableIn (tgt := 155) dL_done_29 (by decide) (by decide) rfl (by decide) ?_
    refine V_aload_n (i := 0) dL_done_155 rfl rfl ?_
    refine V_iload (i := 4) dL_done_156 rfl ?_
    refine V_iconst (v := (nI 1)) dL_done_158 (by decide) ?_
    refine V_aload_n (i := 1) dL_done_159 rfl rfl ?_
    refine V_iload_n (i := 2) dL_done_160 rfl rfl ?_
    refine V_iconst (v := (nI 2)) dL_done_161 (by decide) ?_
    refine V_iadd dL_done_162 ?_
    refine V_iconst (v := (nI 4)) dL_done_163 (by decide) ?_
    refine V_callsE (d := 5) cs_L_15 dL_done_164 (t_L_pick hA hT hL (nI_add i 2) (by omega) (rfl : nI 4 = nI 4) (by decide) (by decide)) rfl rfl (Nat.le_of_ble_eq_true rfl) ⟨Nat.le_refl _, Nat.le_refl _⟩ (by decide) ⟨(Nat.le_of_ble_eq_true rfl), (Nat.le_of_ble_eq_true rfl)⟩ (fun v9 h9 => ?_)
    obtain ⟨v, hv, rfl⟩ := h9
    refine V_iadd dL_done_167 ?_
    refine V_call (d := 5) cv_L_44 dL_done_168 (g_X7_carry hA hl hF hm h3 hp) (hp0 hA) rfl rfl rfl rfl (Nat.le_of_ble_eq_true rfl) ⟨Nat.le_refl _, Nat.le_refl _⟩ (by decide) ⟨(Nat.le_of_ble_eq_true rfl), (Nat.le_of_ble_eq_true rfl)⟩ (fun r G' h => ?_) (fun E G' h => ?_)
    · obtain ⟨σ', k9, nh', nc', rfl, e1, rfl, e3, e4, e5, -⟩ := h
      refine V_iret dL_done_171 rfl (Nat.le_of_ble_eq_true rfl) (Nat.le_of_ble_eq_true rfl) ?_
      exact ⟨σ', k9, nh', nc', rfl, e1, rfl, e3, e4, e5⟩
    · exact VX_out rfl (Nat.le_of_ble_eq_true rfl) (Nat.le_of_ble_eq_true rfl) (DX.of h)
  · refine V_tableIn (tgt := 155) dL_done_29 (by decide) (by decide) rfl (by decide) ?_
    refine V_aload_n (i := 0) dL_done_155 rfl rfl ?_
    refine V_iload (i := 4) dL_done_156 rfl ?_
    refine V_iconst (v := (nI 1)) dL_done_158 (by decide) ?_
    refine V_aload_n (i := 1) dL_done_159 rfl rfl ?_
    refine V_iload_n (i := 2) dL_done_160 rfl rfl ?_
    refine V_iconst (v := (nI 2)) dL_done_161 (by decide) ?_
    refine V_iadd dL_done_162 ?_
    refine V_iconst (v := (nI 4)) dL_done_163 (by decide) ?_
    refine V_callsE (d := 5) cs_L_15 dL_done_164 (t_L_pick hA hT hL (nI_add i 2) (by omega) (rfl : nI 4 = nI 4) (by decide) (by decide)) rfl rfl (Nat.le_of_ble_eq_true rfl) ⟨Nat.le_refl _, Nat.le_refl _⟩ (by decide) ⟨(Nat.le_of_ble_eq_true rfl), (Nat.le_of_ble_eq_true rfl)⟩ (fun v9 h9 => ?_)
    obtain ⟨v, hv, rfl⟩ := h9
    refine V_iadd dL_done_167 ?_
    refine V_call (d := 5) cv_L_44 dL_done_168 (g_X7_carry hA hl hF hm h3 hp) (hp0 hA) rfl rfl rfl rfl (Nat.le_of_ble_eq_true rfl) ⟨Nat.le_refl _, Nat.le_refl _⟩ (by decide) ⟨(Nat.le_of_ble_eq_true rfl), (Nat.le_of_ble_eq_true rfl)⟩ (fun r G' h => ?_) (fun E G' h => ?_)
    · obtain ⟨σ', k9, nh', nc', rfl, e1, rfl, e3, e4, e5, -⟩ := h
      refine V_iret dL_done_171 rfl (Nat.le_of_ble_eq_true rfl) (Nat.le_of_ble_eq_true rfl) ?_
      exact ⟨σ', k9, nh', nc', rfl, e1, rfl, e3, e4, e5⟩
    · exact VX_out rfl (Nat.le_of_ble_eq_true rfl) (Nat.le_of_ble_eq_true rfl) (DX.of h)
  · refine V_tableIn (tgt := 155) dL_done_29 (by decide) (by decide) rfl (by decide) ?_
    refine V_aload_n (i := 0) dL_done_155 rfl rfl ?_
    refine V_iload (i := 4) dL_done_156 rfl ?_
    refine V_iconst (v := (nI 1)) dL_done_158 (by decide) ?_
    refine V_aload_n (i := 1) dL_done_159 rfl rfl ?_
    refine V_iload_n (i := 2) dL_done_160 rfl rfl ?_
    refine V_iconst (v := (nI 2)) dL_done_161 (by decide) ?_
    refine V_iadd dL_done_162 ?_
    refine V_iconst (v := (nI 4)) dL_done_163 (by decide) ?_
    refine V_callsE (d := 5) cs_L_15 dL_done_164 (t_L_pick hA hT hL (nI_add i 2) (by omega) (rfl : nI 4 = nI 4) (by decide) (by decide)) rfl rfl (Nat.le_of_ble_eq_true rfl) ⟨Nat.le_refl _, Nat.le_refl _⟩ (by decide) ⟨(Nat.le_of_ble_eq_true rfl), (Nat.le_of_ble_eq_true rfl)⟩ (fun v9 h9 => ?_)
    obtain ⟨v, hv, rfl⟩ := h9
    refine V_iadd dL_done_167 ?_
    refine V_call (d := 5) cv_L_44 dL_done_168 (g_X7_carry hA hl hF hm h3 hp) (hp0 hA) rfl rfl rfl rfl (Nat.le_of_ble_eq_true rfl) ⟨Nat.le_refl _, Nat.le_refl _⟩ (by decide) ⟨(Nat.le_of_ble_eq_true rfl), (Nat.le_of_ble_eq_true rfl)⟩ (fun r G' h => ?_) (fun E G' h => ?_)
    · obtain ⟨σ', k9, nh', nc', rfl, e1, rfl, e3, e4, e5, -⟩ := h
      refine V_iret dL_done_171 rfl (Nat.le_of_ble_eq_true rfl) (Nat.le_of_ble_eq_true rfl) ?_
      exact ⟨σ', k9, nh', nc', rfl, e1, rfl, e3, e4, e5⟩
    · exact VX_out rfl (Nat.le_of_ble_eq_true rfl) (Nat.le_of_ble_eq_true rfl) (DX.of h)
  · refine V_tableIn (tgt := 172) dL_done_29 (by decide) (by decide) rfl (by decide) ?_
    refine V_aload_n (i := 0) dL_done_172 rfl rfl ?_
    refine V_call (d := 5) cv_L_47 dL_done_173 (g_X7_bone hA hl hF hm h3 hp) (hp0 hA) rfl rfl rfl rfl (Nat.le_of_ble_eq_true rfl) ⟨Nat.le_refl _, Nat.le_refl _⟩ (by decide) ⟨(Nat.le_of_ble_eq_true rfl), (Nat.le_of_ble_eq_true rfl)⟩ (fun r G' h => ?_) (fun E G' h => ?_)
    · obtain ⟨σ', k9, nh', nc', rfl, e1, rfl, e3, e4, e5, -⟩ := h
      refine V_iret dL_done_176 rfl (Nat.le_of_ble_eq_true rfl) (Nat.le_of_ble_eq_true rfl) ?_
      exact ⟨σ', k9, nh', nc', rfl, e1, rfl, e3, e4, e5⟩
    · exact VX_out rfl (Nat.le_of_ble_eq_true rfl) (Nat.le_of_ble_eq_true rfl) (DX.of h)
  · refine V_tableIn (tgt := 172) dL_done_29 (by decide) (by decide) rfl (by decide) ?_
    refine V_aload_n (i := 0) dL_done_172 rfl rfl ?_
    refine V_call (d := 5) cv_L_47 dL_done_173 (g_X7_bone hA hl hF hm h3 hp) (hp0 hA) rfl rfl rfl rfl (Nat.le_of_ble_eq_true rfl) ⟨Nat.le_refl _, Nat.le_refl _⟩ (by decide) ⟨(Nat.le_of_ble_eq_true rfl), (Nat.le_of_ble_eq_true rfl)⟩ (fun r G' h => ?_) (fun E G' h => ?_)
    · obtain ⟨σ', k9, nh', nc', rfl, e1, rfl, e3, e4, e5, -⟩ := h
      refine V_iret dL_done_176 rfl (Nat.le_of_ble_eq_true rfl) (Nat.le_of_ble_eq_true rfl) ?_
      exact ⟨σ', k9, nh', nc', rfl, e1, rfl, e3, e4, e5⟩
    · exact VX_out rfl (Nat.le_of_ble_eq_true rfl) (Nat.le_of_ble_eq_true rfl) (DX.of h)
  · refine V_tableIn (tgt := 177) dL_done_29 (by decide) (by decide) rfl (by decide) ?_
    refine V_aload_n (i := 0) dL_done_177 rfl rfl ?_
    refine V_iconst (v := (nI 1)) dL_done_178 (by decide) ?_
    refine V_aload_n (i := 1) dL_done_179 rfl rfl ?_
    refine V_iload_n (i := 2) dL_done_180 rfl rfl ?_
    refine V_iconst (v := (nI 2)) dL_done_181 (by decide) ?_
    refine V_iadd dL_done_182 ?_
    refine V_iconst (v := (nI 3)) dL_done_183 (by decide) ?_
    refine V_callsE (d := 5) cs_L_15 dL_done_184 (t_L_pick hA hT hL (nI_add i 2) (by omega) (rfl : nI 3 = nI 3) (by decide) (by decide)) rfl rfl (Nat.le_of_ble_eq_true rfl) ⟨Nat.le_refl _, Nat.le_refl _⟩ (by decide) ⟨(Nat.le_of_ble_eq_true rfl), (Nat.le_of_ble_eq_true rfl)⟩ (fun v9 h9 => ?_)
    obtain ⟨v, hv, rfl⟩ := h9
    refine V_iadd dL_done_187 ?_
    refine V_call (d := 5) cv_L_51 dL_done_188 (g_X7_bones hA hl hF hm) (hp0 hA) rfl rfl rfl rfl (Nat.le_of_ble_eq_true rfl) ⟨Nat.le_refl _, Nat.le_refl _⟩ (by decide) ⟨(Nat.le_of_ble_eq_true rfl), (Nat.le_of_ble_eq_true rfl)⟩ (fun r G' h => ?_) (fun E G' h => ?_)
    · obtain ⟨σ', k9, nh', nc', rfl, e1, rfl, e3, e4, e5, -⟩ := h
      refine V_iret dL_done_191 rfl (Nat.le_of_ble_eq_true rfl) (Nat.le_of_ble_eq_true rfl) ?_
      exact ⟨σ', k9, nh', nc', rfl, e1, rfl, e3, e4, e5⟩
    · exact VX_out rfl (Nat.le_of_ble_eq_true rfl) (Nat.le_of_ble_eq_true rfl) (DX.of h)
  · refine V_tableIn (tgt := 192) dL_done_29 (by decide) (by decide) rfl (by decide) ?_
    refine V_aload_n (i := 0) dL_done_192 rfl rfl ?_
    refine V_iload (i := 4) dL_done_193 rfl ?_
    refine V_call (d := 5) cv_L_54 dL_done_195 (g_X7_mop hA hl hF hm h3 hp) (hp0 hA) rfl rfl rfl rfl (Nat.le_of_ble_eq_true rfl) ⟨Nat.le_refl _, Nat.le_refl _⟩ (by decide) ⟨(Nat.le_of_ble_eq_true rfl), (Nat.le_of_ble_eq_true rfl)⟩ (fun r G' h => ?_) (fun E G' h => ?_)
    · obtain ⟨σ', k9, nh', nc', rfl, e1, rfl, e3, e4, e5, -⟩ := h
      refine V_iret dL_done_198 rfl (Nat.le_of_ble_eq_true rfl) (Nat.le_of_ble_eq_true rfl) ?_
      exact ⟨σ', k9, nh', nc', rfl, e1, rfl, e3, e4, e5⟩
    · exact VX_out rfl (Nat.le_of_ble_eq_true rfl) (Nat.le_of_ble_eq_true rfl) (DX.of h)
  · refine V_tableIn (tgt := 199) dL_done_29 (by decide) (by decide) rfl (by decide) ?_
    refine V_aload_n (i := 0) dL_done_199 rfl rfl ?_
    refine V_iload (i := 5) dL_done_200 rfl ?_
    refine V_iconst (v := (nI 1)) dL_done_202 (by decide) ?_
    refine V_aload_n (i := 1) dL_done_203 rfl rfl ?_
    refine V_iload_n (i := 2) dL_done_204 rfl rfl ?_
    refine V_iconst (v := (nI 3)) dL_done_205 (by decide) ?_
    refine V_iadd dL_done_206 ?_
    refine V_bipush (v := (nI 12)) dL_done_207 (by decide) ?_
    refine V_callsE (d := 5) cs_L_15 dL_done_209 (t_L_pick hA hT hL (nI_add i 3) (by omega) (rfl : nI 12 = nI 12) (by decide) (by decide)) rfl rfl (Nat.le_of_ble_eq_true rfl) ⟨Nat.le_refl _, Nat.le_refl _⟩ (by decide) ⟨(Nat.le_of_ble_eq_true rfl), (Nat.le_of_ble_eq_true rfl)⟩ (fun v9 h9 => ?_)
    obtain ⟨v, hv, rfl⟩ := h9
    refine V_iadd dL_done_212 ?_
    refine V_call (d := 5) cv_L_57 dL_done_213 (g_X7_pay hA hl hF hm) (hp0 hA) rfl rfl rfl rfl (Nat.le_of_ble_eq_true rfl) ⟨Nat.le_refl _, Nat.le_refl _⟩ (by decide) ⟨(Nat.le_of_ble_eq_true rfl), (Nat.le_of_ble_eq_true rfl)⟩ (fun r G' h => ?_) (fun E G' h => ?_)
    · obtain ⟨σ', k9, nh', nc', rfl, e1, rfl, e3, e4, e5, -⟩ := h
      refine V_iret dL_done_216 rfl (Nat.le_of_ble_eq_true rfl) (Nat.le_of_ble_eq_true rfl) ?_
      exact ⟨σ', k9, nh', nc', rfl, e1, rfl, e3, e4, e5⟩
    · exact VX_out rfl (Nat.le_of_ble_eq_true rfl) (Nat.le_of_ble_eq_true rfl) (DX.of h)
  · refine V_tableIn (tgt := 199) dL_done_29 (by decide) (by decide) rfl (by decide) ?_
    refine V_aload_n (i := 0) dL_done_199 rfl rfl ?_
    refine V_iload (i := 5) dL_done_200 rfl ?_
    refine V_iconst (v := (nI 1)) dL_done_202 (by decide) ?_
    refine V_aload_n (i := 1) dL_done_203 rfl rfl ?_
    refine V_iload_n (i := 2) dL_done_204 rfl rfl ?_
    refine V_iconst (v := (nI 3)) dL_done_205 (by decide) ?_
    refine V_iadd dL_done_206 ?_
    refine V_bipush (v := (nI 12)) dL_done_207 (by decide) ?_
    refine V_callsE (d := 5) cs_L_15 dL_done_209 (t_L_pick hA hT hL (nI_add i 3) (by omega) (rfl : nI 12 = nI 12) (by decide) (by decide)) rfl rfl (Nat.le_of_ble_eq_true rfl) ⟨Nat.le_refl _, Nat.le_refl _⟩ (by decide) ⟨(Nat.le_of_ble_eq_true rfl), (Nat.le_of_ble_eq_true rfl)⟩ (fun v9 h9 => ?_)
    obtain ⟨v, hv, rfl⟩ := h9
    refine V_iadd dL_done_212 ?_
    refine V_call (d := 5) cv_L_57 dL_done_213 (g_X7_pay hA hl hF hm) (hp0 hA) rfl rfl rfl rfl (Nat.le_of_ble_eq_true rfl) ⟨Nat.le_refl _, Nat.le_refl _⟩ (by decide) ⟨(Nat.le_of_ble_eq_true rfl), (Nat.le_of_ble_eq_true rfl)⟩ (fun r G' h => ?_) (fun E G' h => ?_)
    · obtain ⟨σ', k9, nh', nc', rfl, e1, rfl, e3, e4, e5, -⟩ := h
      refine V_iret dL_done_216 rfl (Nat.le_of_ble_eq_true rfl) (Nat.le_of_ble_eq_true rfl) ?_
      exact ⟨σ', k9, nh', nc', rfl, e1, rfl, e3, e4, e5⟩
    · exact VX_out rfl (Nat.le_of_ble_eq_true rfl) (Nat.le_of_ble_eq_true rfl) (DX.of h)
  · refine V_tableIn (tgt := 217) dL_done_29 (by decide) (by decide) rfl (by decide) ?_
    refine V_aload_n (i := 0) dL_done_217 rfl rfl ?_
    refine V_aload_n (i := 1) dL_done_218 rfl rfl ?_
    refine V_iload_n (i := 2) dL_done_219 rfl rfl ?_
    refine V_iconst (v := (nI 1)) dL_done_220 (by decide) ?_
    refine V_iadd dL_done_221 ?_
    refine V_iconst (v := (nI 4)) dL_done_222 (by decide) ?_
    refine V_callsE (d := 5) cs_L_15 dL_done_223 (t_L_pick hA hT hL (nI_add i 1) (by omega) (rfl : nI 4 = nI 4) (by decide) (by decide)) rfl rfl (Nat.le_of_ble_eq_true rfl) ⟨Nat.le_refl _, Nat.le_refl _⟩ (by decide) ⟨(Nat.le_of_ble_eq_true rfl), (Nat.le_of_ble_eq_true rfl)⟩ (fun v9 h9 => ?_)
    obtain ⟨v, hv, rfl⟩ := h9
    refine V_call (d := 5) cv_L_60 dL_done_226 (g_X7_shoe hA hl hF hm) (hp0 hA) rfl rfl rfl rfl (Nat.le_of_ble_eq_true rfl) ⟨Nat.le_refl _, Nat.le_refl _⟩ (by decide) ⟨(Nat.le_of_ble_eq_true rfl), (Nat.le_of_ble_eq_true rfl)⟩ (fun r G' h => ?_) (fun E G' h => ?_)
    · obtain ⟨σ', k9, nh', nc', rfl, e1, rfl, e3, e4, e5, -⟩ := h
      refine V_iret dL_done_229 rfl (Nat.le_of_ble_eq_true rfl) (Nat.le_of_ble_eq_true rfl) ?_
      exact ⟨σ', k9, nh', nc', rfl, e1, rfl, e3, e4, e5⟩
    · exact VX_out rfl (Nat.le_of_ble_eq_true rfl) (Nat.le_of_ble_eq_true rfl) (DX.of h)
  · refine V_tableIn (tgt := 230) dL_done_29 (by decide) (by decide) rfl (by decide) ?_
    refine V_aload_n (i := 0) dL_done_230 rfl rfl ?_
    refine V_iload (i := 5) dL_done_231 rfl ?_
    refine V_aload_n (i := 1) dL_done_233 rfl rfl ?_
    refine V_iload_n (i := 2) dL_done_234 rfl rfl ?_
    refine V_iconst (v := (nI 3)) dL_done_235 (by decide) ?_
    refine V_iadd dL_done_236 ?_
    refine V_iconst (v := (nI 5)) dL_done_237 (by decide) ?_
    refine V_callsE (d := 5) cs_L_15 dL_done_238 (t_L_pick hA hT hL (nI_add i 3) (by omega) (rfl : nI 5 = nI 5) (by decide) (by decide)) rfl rfl (Nat.le_of_ble_eq_true rfl) ⟨Nat.le_refl _, Nat.le_refl _⟩ (by decide) ⟨(Nat.le_of_ble_eq_true rfl), (Nat.le_of_ble_eq_true rfl)⟩ (fun v9 h9 => ?_)
    obtain ⟨v, hv, rfl⟩ := h9
    refine V_call (d := 5) cv_L_25 dL_done_241 (g_X7_order hA hl hF hm) (hp0 hA) rfl rfl rfl rfl (Nat.le_of_ble_eq_true rfl) ⟨Nat.le_refl _, Nat.le_refl _⟩ (by decide) ⟨(Nat.le_of_ble_eq_true rfl), (Nat.le_of_ble_eq_true rfl)⟩ (fun r G' h => ?_) (fun E G' h => ?_)
    · obtain ⟨σ', k9, nh', nc', rfl, e1, rfl, e3, e4, e5, -⟩ := h
      refine V_iret dL_done_244 rfl (Nat.le_of_ble_eq_true rfl) (Nat.le_of_ble_eq_true rfl) ?_
      exact ⟨σ', k9, nh', nc', rfl, e1, rfl, e3, e4, e5⟩
    · exact VX_out rfl (Nat.le_of_ble_eq_true rfl) (Nat.le_of_ble_eq_true rfl) (DX.of h)
  · refine V_tableIn (tgt := 245) dL_done_29 (by decide) (by decide) rfl (by decide) ?_
    refine V_aload_n (i := 0) dL_done_245 rfl rfl ?_
    refine V_aload_n (i := 1) dL_done_246 rfl rfl ?_
    refine V_iload_n (i := 2) dL_done_247 rfl rfl ?_
    refine V_iconst (v := (nI 1)) dL_done_248 (by decide) ?_
    refine V_iadd dL_done_249 ?_
    refine V_bipush (v := (nI 10)) dL_done_250 (by decide) ?_
    refine V_callsE (d := 5) cs_L_15 dL_done_252 (t_L_pick hA hT hL (nI_add i 1) (by omega) (rfl : nI 10 = nI 10) (by decide) (by decide)) rfl rfl (Nat.le_of_ble_eq_true rfl) ⟨Nat.le_refl _, Nat.le_refl _⟩ (by decide) ⟨(Nat.le_of_ble_eq_true rfl), (Nat.le_of_ble_eq_true rfl)⟩ (fun v9 h9 => ?_)
    obtain ⟨v, hv, rfl⟩ := h9
    refine V_aload_n (i := 1) dL_done_255 rfl rfl ?_
    refine V_iload_n (i := 2) dL_done_256 rfl rfl ?_
    refine V_iconst (v := (nI 2)) dL_done_257 (by decide) ?_
    refine V_iadd dL_done_258 ?_
    refine V_iconst (v := (nI 3)) dL_done_259 (by decide) ?_
    refine V_callsE (d := 5) cs_L_15 dL_done_260 (t_L_pick hA hT hL (nI_add i 2) (by omega) (rfl : nI 3 = nI 3) (by decide) (by decide)) rfl rfl (Nat.le_of_ble_eq_true rfl) ⟨Nat.le_refl _, Nat.le_refl _⟩ (by decide) ⟨(Nat.le_of_ble_eq_true rfl), (Nat.le_of_ble_eq_true rfl)⟩ (fun v9 h9 => ?_)
    obtain ⟨v, hv, rfl⟩ := h9
    refine V_call (d := 5) cv_L_19 dL_done_263 (g_X7_house hA hl hF hm) (hp0 hA) rfl rfl rfl rfl (Nat.le_of_ble_eq_true rfl) ⟨Nat.le_refl _, Nat.le_refl _⟩ (by decide) ⟨(Nat.le_of_ble_eq_true rfl), (Nat.le_of_ble_eq_true rfl)⟩ (fun r G' h => ?_) (fun E G' h => ?_)
    · obtain ⟨σ', k9, nh', nc', rfl, e1, rfl, e3, e4, e5, -⟩ := h
      refine V_iret dL_done_266 rfl (Nat.le_of_ble_eq_true rfl) (Nat.le_of_ble_eq_true rfl) ?_
      exact ⟨σ', k9, nh', nc', rfl, e1, rfl, e3, e4, e5⟩
    · exact VX_out rfl (Nat.le_of_ble_eq_true rfl) (Nat.le_of_ble_eq_true rfl) (DX.of h)
  · refine V_tableOut (tgt := 267) dL_done_29 (by decide) (by decide) ?_
    refine V_aload_n (i := 0) dL_done_267 rfl rfl ?_
    refine V_iconst (v := (nI 1)) dL_done_268 (by decide) ?_
    refine V_aload_n (i := 1) dL_done_269 rfl rfl ?_
    refine V_iload_n (i := 2) dL_done_270 rfl rfl ?_
    refine V_iconst (v := (nI 1)) dL_done_271 (by decide) ?_
    refine V_iadd dL_done_272 ?_
    refine V_bipush (v := (nI 8)) dL_done_273 (by decide) ?_
    refine V_callsE (d := 5) cs_L_15 dL_done_275 (t_L_pick hA hT hL (nI_add i 1) (by omega) (rfl : nI 8 = nI 8) (by decide) (by decide)) rfl rfl (Nat.le_of_ble_eq_true rfl) ⟨Nat.le_refl _, Nat.le_refl _⟩ (by decide) ⟨(Nat.le_of_ble_eq_true rfl), (Nat.le_of_ble_eq_true rfl)⟩ (fun v9 h9 => ?_)
    obtain ⟨v, hv, rfl⟩ := h9
    refine V_iadd dL_done_278 ?_
    refine V_call (d := 5) cv_L_32 dL_done_279 (g_X7_days hA hl hF hm) (hp0 hA) rfl rfl rfl rfl (Nat.le_of_ble_eq_true rfl) ⟨Nat.le_refl _, Nat.le_refl _⟩ (by decide) ⟨(Nat.le_of_ble_eq_true rfl), (Nat.le_of_ble_eq_true rfl)⟩ (fun r G' h => ?_) (fun E G' h => ?_)
    · obtain ⟨σ', k9, nh', nc', rfl, e1, rfl, e3, e4, e5, -⟩ := h
      refine V_iret dL_done_282 rfl (Nat.le_of_ble_eq_true rfl) (Nat.le_of_ble_eq_true rfl) ?_
      exact ⟨σ', k9, nh', nc', rfl, e1, rfl, e3, e4, e5⟩
    · exact VX_out rfl (Nat.le_of_ble_eq_true rfl) (Nat.le_of_ble_eq_true rfl) (DX.of h)
  · refine V_tableOut (tgt := 267) dL_done_29 (by decide) (by decide) ?_
    refine V_aload_n (i := 0) dL_done_267 rfl rfl ?_
    refine V_iconst (v := (nI 1)) dL_done_268 (by decide) ?_
    refine V_aload_n (i := 1) dL_done_269 rfl rfl ?_
    refine V_iload_n (i := 2) dL_done_270 rfl rfl ?_
    refine V_iconst (v := (nI 1)) dL_done_271 (by decide) ?_
    refine V_iadd dL_done_272 ?_
    refine V_bipush (v := (nI 8)) dL_done_273 (by decide) ?_
    refine V_callsE (d := 5) cs_L_15 dL_done_275 (t_L_pick hA hT hL (nI_add i 1) (by omega) (rfl : nI 8 = nI 8) (by decide) (by decide)) rfl rfl (Nat.le_of_ble_eq_true rfl) ⟨Nat.le_refl _, Nat.le_refl _⟩ (by decide) ⟨(Nat.le_of_ble_eq_true rfl), (Nat.le_of_ble_eq_true rfl)⟩ (fun v9 h9 => ?_)
    obtain ⟨v, hv, rfl⟩ := h9
    refine V_iadd dL_done_278 ?_
    refine V_call (d := 5) cv_L_32 dL_done_279 (g_X7_days hA hl hF hm) (hp0 hA) rfl rfl rfl rfl (Nat.le_of_ble_eq_true rfl) ⟨Nat.le_refl _, Nat.le_refl _⟩ (by decide) ⟨(Nat.le_of_ble_eq_true rfl), (Nat.le_of_ble_eq_true rfl)⟩ (fun r G' h => ?_) (fun E G' h => ?_)
    · obtain ⟨σ', k9, nh', nc', rfl, e1, rfl, e3, e4, e5, -⟩ := h
      refine V_iret dL_done_282 rfl (Nat.le_of_ble_eq_true rfl) (Nat.le_of_ble_eq_true rfl) ?_
      exact ⟨σ', k9, nh', nc', rfl, e1, rfl, e3, e4, e5⟩
    · exact VX_out rfl (Nat.le_of_ble_eq_true rfl) (Nat.le_of_ble_eq_true rfl) (DX.of h)
  · refine V_tableOut (tgt := 267) dL_done_29 (by decide) (by decide) ?_
    refine V_aload_n (i := 0) dL_done_267 rfl rfl ?_
    refine V_iconst (v := (nI 1)) dL_done_268 (by decide) ?_
    refine V_aload_n (i := 1) dL_done_269 rfl rfl ?_
    refine V_iload_n (i := 2) dL_done_270 rfl rfl ?_
    refine V_iconst (v := (nI 1)) dL_done_271 (by decide) ?_
    refine V_iadd dL_done_272 ?_
    refine V_bipush (v := (nI 8)) dL_done_273 (by decide) ?_
    refine V_callsE (d := 5) cs_L_15 dL_done_275 (t_L_pick hA hT hL (nI_add i 1) (by omega) (rfl : nI 8 = nI 8) (by decide) (by decide)) rfl rfl (Nat.le_of_ble_eq_true rfl) ⟨Nat.le_refl _, Nat.le_refl _⟩ (by decide) ⟨(Nat.le_of_ble_eq_true rfl), (Nat.le_of_ble_eq_true rfl)⟩ (fun v9 h9 => ?_)
    obtain ⟨v, hv, rfl⟩ := h9
    refine V_iadd dL_done_278 ?_
    refine V_call (d := 5) cv_L_32 dL_done_279 (g_X7_days hA hl hF hm) (hp0 hA) rfl rfl rfl rfl (Nat.le_of_ble_eq_true rfl) ⟨Nat.le_refl _, Nat.le_refl _⟩ (by decide) ⟨(Nat.le_of_ble_eq_true rfl), (Nat.le_of_ble_eq_true rfl)⟩ (fun r G' h => ?_) (fun E G' h => ?_)
    · obtain ⟨σ', k9, nh', nc', rfl, e1, rfl, e3, e4, e5, -⟩ := h
      refine V_iret dL_done_282 rfl (Nat.le_of_ble_eq_true rfl) (Nat.le_of_ble_eq_true rfl) ?_
      exact ⟨σ', k9, nh', nc', rfl, e1, rfl, e3, e4, e5⟩
    · exact VX_out rfl (Nat.le_of_ble_eq_true rfl) (Nat.le_of_ble_eq_true rfl) (DX.of h)
  · refine V_tableOut (tgt := 267) dL_done_29 (by decide) (by decide) ?_
    refine V_aload_n (i := 0) dL_done_267 rfl rfl ?_
    refine V_iconst (v := (nI 1)) dL_done_268 (by decide) ?_
    refine V_aload_n (i := 1) dL_done_269 rfl rfl ?_
    refine V_iload_n (i := 2) dL_done_270 rfl rfl ?_
    refine V_iconst (v := (nI 1)) dL_done_271 (by decide) ?_
    refine V_iadd dL_done_272 ?_
    refine V_bipush (v := (nI 8)) dL_done_273 (by decide) ?_
    refine V_callsE (d := 5) cs_L_15 dL_done_275 (t_L_pick hA hT hL (nI_add i 1) (by omega) (rfl : nI 8 = nI 8) (by decide) (by decide)) rfl rfl (Nat.le_of_ble_eq_true rfl) ⟨Nat.le_refl _, Nat.le_refl _⟩ (by decide) ⟨(Nat.le_of_ble_eq_true rfl), (Nat.le_of_ble_eq_true rfl)⟩ (fun v9 h9 => ?_)
    obtain ⟨v, hv, rfl⟩ := h9
    refine V_iadd dL_done_278 ?_
    refine V_call (d := 5) cv_L_32 dL_done_279 (g_X7_days hA hl hF hm) (hp0 hA) rfl rfl rfl rfl (Nat.le_of_ble_eq_true rfl) ⟨Nat.le_refl _, Nat.le_refl _⟩ (by decide) ⟨(Nat.le_of_ble_eq_true rfl), (Nat.le_of_ble_eq_true rfl)⟩ (fun r G' h => ?_) (fun E G' h => ?_)
    · obtain ⟨σ', k9, nh', nc', rfl, e1, rfl, e3, e4, e5, -⟩ := h
      refine V_iret dL_done_282 rfl (Nat.le_of_ble_eq_true rfl) (Nat.le_of_ble_eq_true rfl) ?_
      exact ⟨σ', k9, nh', nc', rfl, e1, rfl, e3, e4, e5⟩
    · exact VX_out rfl (Nat.le_of_ble_eq_true rfl) (Nat.le_of_ble_eq_true rfl) (DX.of h)
  · refine V_tableOut (tgt := 267) dL_done_29 (by decide) (by decide) ?_
    refine V_aload_n (i := 0) dL_done_267 rfl rfl ?_
    refine V_iconst (v := (nI 1)) dL_done_268 (by decide) ?_
    refine V_aload_n (i := 1) dL_done_269 rfl rfl ?_
    refine V_iload_n (i := 2) dL_done_270 rfl rfl ?_
    refine V_iconst (v := (nI 1)) dL_done_271 (by decide) ?_
    refine V_iadd dL_done_272 ?_
    refine V_bipush (v := (nI 8)) dL_done_273 (by decide) ?_
    refine V_callsE (d := 5) cs_L_15 dL_done_275 (t_L_pick hA hT hL (nI_add i 1) (by omega) (rfl : nI 8 = nI 8) (by decide) (by decide)) rfl rfl (Nat.le_of_ble_eq_true rfl) ⟨Nat.le_refl _, Nat.le_refl _⟩ (by decide) ⟨(Nat.le_of_ble_eq_true rfl), (Nat.le_of_ble_eq_true rfl)⟩ (fun v9 h9 => ?_)
    obtain ⟨v, hv, rfl⟩ := h9
    refine V_iadd dL_done_278 ?_
    refine V_call (d := 5) cv_L_32 dL_done_279 (g_X7_days hA hl hF hm) (hp0 hA) rfl rfl rfl rfl (Nat.le_of_ble_eq_true rfl) ⟨Nat.le_refl _, Nat.le_refl _⟩ (by decide) ⟨(Nat.le_of_ble_eq_true rfl), (Nat.le_of_ble_eq_true rfl)⟩ (fun r G' h => ?_) (fun E G' h => ?_)
    · obtain ⟨σ', k9, nh', nc', rfl, e1, rfl, e3, e4, e5, -⟩ := h
      refine V_iret dL_done_282 rfl (Nat.le_of_ble_eq_true rfl) (Nat.le_of_ble_eq_true rfl) ?_
      exact ⟨σ', k9, nh', nc', rfl, e1, rfl, e3, e4, e5⟩
    · exact VX_out rfl (Nat.le_of_ble_eq_true rfl) (Nat.le_of_ble_eq_true rfl) (DX.of h)

