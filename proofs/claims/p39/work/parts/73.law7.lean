/-! the law: the sacks are right -/
theorem v_X7_sumOf4 {D : va_G} {s0 : State} {l : Launch} {B : Nat} {A : AT} {σ : Sg} (hA : AOK B A) {nh : Nat} (h1 : σ.1 5 0 1 = nI nh) (hn : nh ≤ 8) {v : Int32} (hv : S_sum (σ.1 5 0) nh 4 = v) : Tri D s0 l yX5_sumOf cX5_sumOf 4 ((some .int)) 2 0 0 [.ref (A 5 0 0), .int (nI 4)] (HP A σ) (fun r G' => r = some (.int v) ∧ G' = HP A σ) noX := (t_X5_sumOf hA (by decide) h1 hn (by decide)).weaken (fun r G' h => ⟨by rw [h.1, hv], h.2⟩) (fun _ _ h => h)
theorem v_X7_coins {D : va_G} {s0 : State} {l : Launch} {B : Nat} {A : AT} {σ : Sg} (hA : AOK B A) {nh : Nat} (h1 : σ.1 5 0 1 = nI nh) (hn : nh ≤ 8) {v : Int32} (hv : σ.1 5 0 7 + S_sum (σ.1 5 0) nh 4 = v) : Tri D s0 l yX5_coinsForSacks cX5_coinsForSacks 1 ((some .int)) 3 0 0 [.ref (A 5 0 0)] (HP A σ) (fun r G' => r = some (.int v) ∧ G' = HP A σ) noX := (t_X5_coinsForSacks hA (by decide) h1 hn).weaken (fun r G' h => ⟨by rw [h.1, hv], h.2⟩) (fun _ _ h => h)

set_option maxHeartbeats 4000000 in
set_option maxRecDepth 100000 in
theorem v_X7_meanArrears {D : va_G} {s0 : State} {l : Launch} {B : Nat} {A : AT} {σ : Sg} (hA : AOK B A) {nh : Nat} (h1 : σ.1 5 0 1 = nI nh) (hn : nh ≤ 8) (h0 : ¬ nI nh = 0) {rr : Int32} (hr : S_sum (σ.1 5 0) nh 4 = rr) : Tri D s0 l yX7_meanArrears cX7_meanArrears 1 ((some .float)) 3 0 0 [.ref (A 0 0 0)] (HP A σ) (fun r G' => r = some (.float (FP.fdiv (FP.i2f rr) (FP.i2f (nI nh)))) ∧ G' = HP A σ) noX := by
  refine Tri.ofV (own := RX7) (mn := "meanArrears") (by decide +kernel) rfl rfl (Nat.le_of_ble_eq_true rfl) ?_
  refine V_aload_n (i := 0) dX7_meanArrears_0 rfl rfl ?_
  refine V_getf fl_X7_20 dX7_meanArrears_1 (hp0 hA) rfl ?_
  refine V_getf fl_X7_174 dX7_meanArrears_4 (hp5 hA (by omega)) rfl ?_
  refine V_if_ne (tgt := 21) dX7_meanArrears_7 (by decide) (fun _ => ?_) (fun h7 => by first | exact absurd (by rw [h1]; exact h0) h7 | exact absurd h7 (by rw [h1]; exact h0))
  refine V_aload_n (i := 0) dX7_meanArrears_21 rfl rfl ?_
  refine V_getf fl_X7_20 dX7_meanArrears_22 (hp0 hA) rfl ?_
  refine V_iconst (v := (nI 4)) dX7_meanArrears_25 (by decide) ?_
  refine Cv1_1 (d := 3) cv_X7_281 dX7_meanArrears_26 (v_X7_sumOf4 hA h1 hn hr) (hp5 hA (by omega)) rfl rfl (Nat.le_of_ble_eq_true rfl) ⟨Nat.le_refl _, Nat.le_refl _⟩ (by decide) ⟨Nat.le_of_ble_eq_true rfl, Nat.le_of_ble_eq_true rfl⟩ ?_
  refine V_i2f dX7_meanArrears_29 ?_
  refine V_aload_n (i := 0) dX7_meanArrears_30 rfl rfl ?_
  refine V_getf fl_X7_20 dX7_meanArrears_31 (hp0 hA) rfl ?_
  refine V_getf fl_X7_174 dX7_meanArrears_34 (hp5 hA (by omega)) rfl ?_
  rw [h1]
  refine V_i2f dX7_meanArrears_37 ?_
  refine V_fdiv dX7_meanArrears_38 (fdiv_n h0) ?_
  refine V_fret dX7_meanArrears_39 rfl (Nat.le_of_ble_eq_true rfl) (Nat.le_of_ble_eq_true rfl) ?_
  exact ⟨rfl, rfl⟩

set_option maxHeartbeats 4000000 in
set_option maxRecDepth 100000 in
theorem v_X7_paidShare {D : va_G} {s0 : State} {l : Launch} {B : Nat} {A : AT} {σ : Sg} (hA : AOK B A) {nh : Nat} (h1 : σ.1 5 0 1 = nI nh) (hn : nh ≤ 8) {p t : Int32} (hp : σ.1 5 0 7 = p) (ht : σ.1 5 0 7 + S_sum (σ.1 5 0) nh 4 = t) (h0 : ¬ t = 0) : Tri D s0 l yX7_paidShare cX7_paidShare 2 ((some .double)) 4 0 0 [.ref (A 0 0 0)] (HP A σ) (fun r G' => r = some (.double (FP.ddiv (FP.i2d p) (FP.i2d t))) ∧ G' = HP A σ) noX := by
  refine Tri.ofV (own := RX7) (mn := "paidShare") (by decide +kernel) rfl rfl (Nat.le_of_ble_eq_true rfl) ?_
  refine V_aload_n (i := 0) dX7_paidShare_0 rfl rfl ?_
  refine V_getf fl_X7_20 dX7_paidShare_1 (hp0 hA) rfl ?_
  refine Cv1_0 (d := 4) cv_X7_188 dX7_paidShare_4 (v_X7_coins hA h1 hn ht) (hp5 hA (by omega)) rfl rfl (Nat.le_of_ble_eq_true rfl) ⟨Nat.le_refl _, Nat.le_refl _⟩ (by decide) ⟨Nat.le_of_ble_eq_true rfl, Nat.le_of_ble_eq_true rfl⟩ ?_
  refine V_istore_n (i := 1) dX7_paidShare_7 rfl (by decide) ?_
  refine V_iload_n (i := 1) dX7_paidShare_8 rfl rfl ?_
  refine V_if_ne (tgt := 23) dX7_paidShare_9 (by decide) (fun _ => ?_) (fun h9 => by first | exact absurd (h0) h9 | exact absurd h9 (h0))
  refine V_aload_n (i := 0) dX7_paidShare_23 rfl rfl ?_
  refine V_getf fl_X7_20 dX7_paidShare_24 (hp0 hA) rfl ?_
  refine V_getf fl_X7_286 dX7_paidShare_27 (hp5 hA (by omega)) rfl ?_
  rw [hp]
  refine V_i2d dX7_paidShare_30 ?_
  refine V_iload_n (i := 1) dX7_paidShare_31 rfl rfl ?_
  refine V_i2d dX7_paidShare_32 ?_
  refine V_ddiv dX7_paidShare_33 (ddiv_n h0) ?_
  refine V_dret dX7_paidShare_34 rfl (Nat.le_of_ble_eq_true rfl) (Nat.le_of_ble_eq_true rfl) ?_
  exact ⟨rfl, rfl⟩

set_option maxHeartbeats 4000000 in
set_option maxRecDepth 100000 in
theorem t_L_areSacksRight {D : va_G} {s0 : State} {l : Launch} {B : Nat} {A : AT} {σ : Sg} (hA : AOK B A) {m nh nc : Nat} (hF : FK σ m nh nc) (hm : m ≤ 1000) (hh1 : 1 ≤ nh) : Tri D s0 l yL_areSacksRight cL_areSacksRight 4 ((some .boolean)) 6 0 0 [.ref (A 0 0 0)] (HP A σ) (fun r G' => r = some (.int 1) ∧ G' = HP A σ) noX := by
  obtain ⟨-, -, ⟨h1, hn⟩, ⟨h2, hc⟩, -, a, e, z, k, x, y, p, q, c, j1, j2, ⟨jx, jy, jp, jq, hq⟩, jk, je, hs, hr⟩ := id hF
  obtain ⟨x2, hx2, ex2⟩ := hF.2.1 4 30 rfl
  obtain ⟨b, hb, eb⟩ := hF.2.1 8 (3 + 9 * m) rfl
  have hx30 : x ≤ 30 := by
    have := (nI_eq (by omega) (by omega)).mp (jx.symm.trans ex2)
    omega
  have hk : ns k nc = c := (ns_z 4 hc (fun i h3 h4 => (j2 i h4).2 h3)).symm.trans jk
  have ec : sm (fun c => (σ.1 5 0) (kx c 3)) nc = nI c := by
    rw [sm_ns nc (fun i hi => (j2 i (by omega)).1), hk]
  have e7 : S_sum (σ.1 5 0) nh 7 = nI c := by
    refine (sm_ns (f := e) nh (fun i hi => (j1 i (by omega)).2.1)).trans ?_
    rw [← ns_z (f := e) 8 hn (fun i h3 h4 => ((j1 i h4).2.2.2.2 h3).2), je]
  obtain ⟨r, er9⟩ : ∃ r, r = ns a 8 := ⟨_, rfl⟩
  rw [← er9] at hr
  have er : S_sum (σ.1 5 0) nh 4 = nI r := by
    refine (sm_ns (f := a) nh (fun i hi => (j1 i (by omega)).1)).trans ?_
    rw [← ns_z (f := a) 8 hn (fun i h3 h4 => ((j1 i h4).2.2.2.2 h3).1), er9]
  have eg : (σ.1 5 0 7 + S_sum (σ.1 5 0) nh 4) / 3 = nI c := by
    rw [jp, er, nI_add, hr, show (3 : Int32) = nI 3 from rfl, pk_div (by omega) (by decide) (by decide), Nat.mul_div_cancel_left c (by decide)]
  have et : σ.1 5 0 7 + S_sum (σ.1 5 0) nh 4 = nI 3 * nI c := by
    rw [jp, er, nI_add, hr, pk_mul]
  have h0 : ¬ nI nh = 0 := nI_ne0 hh1 (by omega)
  have nc0 : ¬ nI c = 0 → ¬ c = 0 := fun h3 h4 => h3 (by rw [h4, nI_0])
  refine Tri.ofV (own := RL) (mn := "areSacksRight") (by decide +kernel) rfl rfl (Nat.le_of_ble_eq_true rfl) ?_
  have fin : V D s0 RL "areSacksRight" cL_areSacksRight 4 ((some .boolean)) [] l (rmd 6 0 0) (Zm D s0 0 0 (fun r G' => r = some (.int 1) ∧ G' = HP A σ) noX) 80 [(0, .ref (A 0 0 0)), (1, .int (nI c)), (2, .int (nI 1))] [] (HP A σ) 0 0 := by
    refine V_iload_n (i := 2) dL_areSacksRight_80 rfl rfl ?_
    refine V_if_eq (tgt := 150) dL_areSacksRight_81 (by decide) (fun h81 => by first | exact absurd h81 (by decide) | exact absurd (by decide) h81) (fun _ => ?_)
    refine V_iload_n (i := 1) dL_areSacksRight_84 rfl rfl ?_
    refine V_aload_n (i := 0) dL_areSacksRight_85 rfl rfl ?_
    refine Cv1_0 (d := 6) cv_L_81 dL_areSacksRight_86 (v_X7_carried hA h2 hc (v := nI c) ec) (hp0 hA) rfl rfl (Nat.le_of_ble_eq_true rfl) ⟨Nat.le_refl _, Nat.le_refl _⟩ (by decide) ⟨Nat.le_of_ble_eq_true rfl, Nat.le_of_ble_eq_true rfl⟩ ?_
    refine V_icmp_ne (tgt := 150) dL_areSacksRight_89 (by decide) (fun h89 => by first | exact absurd h89 (fun z => z rfl) | exact absurd (fun z => z rfl) h89) (fun _ => ?_)
    refine V_iload_n (i := 1) dL_areSacksRight_92 rfl rfl ?_
    refine V_aload_n (i := 0) dL_areSacksRight_93 rfl rfl ?_
    refine Cv1_0 (d := 6) cv_L_84 dL_areSacksRight_94 (v_X7_carriedAgain hA h1 hn (v := nI c) eg) (hp0 hA) rfl rfl (Nat.le_of_ble_eq_true rfl) ⟨Nat.le_refl _, Nat.le_refl _⟩ (by decide) ⟨Nat.le_of_ble_eq_true rfl, Nat.le_of_ble_eq_true rfl⟩ ?_
    refine V_icmp_ne (tgt := 150) dL_areSacksRight_97 (by decide) (fun h97 => by first | exact absurd h97 (fun z => z rfl) | exact absurd (fun z => z rfl) h97) (fun _ => ?_)
    refine V_iload_n (i := 1) dL_areSacksRight_100 rfl rfl ?_
    refine V_aload_n (i := 0) dL_areSacksRight_101 rfl rfl ?_
    refine V_bipush (v := (nI 7)) dL_areSacksRight_102 (by decide) ?_
    refine Cs1_2 (d := 6) cs_L_87 dL_areSacksRight_104 (v_L_sum hA h1 hn (q := 7) (by decide) (v := nI c) e7) (Nat.le_of_ble_eq_true rfl) ⟨Nat.le_refl _, Nat.le_refl _⟩ (by decide) ⟨Nat.le_of_ble_eq_true rfl, Nat.le_of_ble_eq_true rfl⟩ ?_
    refine V_icmp_ne (tgt := 150) dL_areSacksRight_107 (by decide) (fun h107 => by first | exact absurd h107 (fun z => z rfl) | exact absurd (fun z => z rfl) h107) (fun _ => ?_)
    refine V_aload_n (i := 0) dL_areSacksRight_110 rfl rfl ?_
    refine V_iconst (v := (nI 5)) dL_areSacksRight_111 (by decide) ?_
    refine Cv1_1 (d := 6) cv_L_38 dL_areSacksRight_112 (v_X7_account hA h1 hn (q := 5) (by decide) (v := nI y) jy) (hp0 hA) rfl rfl (Nat.le_of_ble_eq_true rfl) ⟨Nat.le_refl _, Nat.le_refl _⟩ (by decide) ⟨Nat.le_of_ble_eq_true rfl, Nat.le_of_ble_eq_true rfl⟩ ?_
    refine V_aload_n (i := 0) dL_areSacksRight_115 rfl rfl ?_
    refine V_iconst (v := (nI 4)) dL_areSacksRight_116 (by decide) ?_
    refine Cv1_1 (d := 6) cv_L_38 dL_areSacksRight_117 (v_X7_account hA h1 hn (q := 4) (by decide) (v := nI x) jx) (hp0 hA) rfl rfl (Nat.le_of_ble_eq_true rfl) ⟨Nat.le_refl _, Nat.le_refl _⟩ (by decide) ⟨Nat.le_of_ble_eq_true rfl, Nat.le_of_ble_eq_true rfl⟩ ?_
    refine V_iadd dL_areSacksRight_120 ?_
    refine V_iload_n (i := 1) dL_areSacksRight_121 rfl rfl ?_
    refine V_iadd dL_areSacksRight_122 ?_
    refine V_bipush (v := (nI 100)) dL_areSacksRight_123 (by decide) ?_
    refine V_icmp_ne (tgt := 150) dL_areSacksRight_125 (by decide) (fun h125 => by first | exact absurd h125 (fun z => z (by rw [nI_add, nI_add, show y + x + c = 100 by omega])) | exact absurd (fun z => z (by rw [nI_add, nI_add, show y + x + c = 100 by omega])) h125) (fun _ => ?_)
    refine V_aload_n (i := 0) dL_areSacksRight_128 rfl rfl ?_
    refine V_iconst (v := (nI 4)) dL_areSacksRight_129 (by decide) ?_
    refine Cv1_1 (d := 6) cv_L_38 dL_areSacksRight_130 (v_X7_account hA h1 hn (q := 4) (by decide) (v := nI x) jx) (hp0 hA) rfl rfl (Nat.le_of_ble_eq_true rfl) ⟨Nat.le_refl _, Nat.le_refl _⟩ (by decide) ⟨Nat.le_of_ble_eq_true rfl, Nat.le_of_ble_eq_true rfl⟩ ?_
    refine V_if_lt (tgt := 150) dL_areSacksRight_133 (by decide) (fun h133 => by first | exact absurd h133 (nI_pos (by omega)) | exact absurd (nI_pos (by omega)) h133) (fun _ => ?_)
    refine V_aload_n (i := 0) dL_areSacksRight_136 rfl rfl ?_
    refine V_iconst (v := (nI 4)) dL_areSacksRight_137 (by decide) ?_
    refine Cv1_1 (d := 6) cv_L_38 dL_areSacksRight_138 (v_X7_account hA h1 hn (q := 4) (by decide) (v := nI x) jx) (hp0 hA) rfl rfl (Nat.le_of_ble_eq_true rfl) ⟨Nat.le_refl _, Nat.le_refl _⟩ (by decide) ⟨Nat.le_of_ble_eq_true rfl, Nat.le_of_ble_eq_true rfl⟩ ?_
    refine V_bipush (v := (nI 30)) dL_areSacksRight_141 (by decide) ?_
    refine V_icmp_gt (tgt := 150) dL_areSacksRight_143 (by decide) (fun h143 => by first | exact absurd h143 (nI_nlt hx30 (by decide)) | exact absurd (nI_nlt hx30 (by decide)) h143) (fun _ => ?_)
    refine V_iconst (v := (nI 1)) dL_areSacksRight_146 (by decide) ?_
    refine V_goto (tgt := 151) dL_areSacksRight_147 (by decide) ?_
    refine V_istore_n (i := 2) dL_areSacksRight_151 rfl (by decide) ?_
    refine V_iload_n (i := 2) dL_areSacksRight_152 rfl rfl ?_
    refine V_if_eq (tgt := 239) dL_areSacksRight_153 (by decide) (fun h153 => by first | exact absurd h153 (by decide) | exact absurd (by decide) h153) (fun _ => ?_)
    refine V_iconst (v := (nI 3)) dL_areSacksRight_156 (by decide) ?_
    refine V_iload_n (i := 1) dL_areSacksRight_157 rfl rfl ?_
    refine V_imul dL_areSacksRight_158 ?_
    refine V_aload_n (i := 0) dL_areSacksRight_159 rfl rfl ?_
    refine V_bipush (v := (nI 10)) dL_areSacksRight_160 (by decide) ?_
    refine Cv1_1 (d := 6) cv_L_38 dL_areSacksRight_162 (v_X7_account hA h1 hn (q := 10) (by decide) (v := nI p) jp) (hp0 hA) rfl rfl (Nat.le_of_ble_eq_true rfl) ⟨Nat.le_refl _, Nat.le_refl _⟩ (by decide) ⟨Nat.le_of_ble_eq_true rfl, Nat.le_of_ble_eq_true rfl⟩ ?_
    refine V_aload_n (i := 0) dL_areSacksRight_165 rfl rfl ?_
    refine V_bipush (v := (nI 7)) dL_areSacksRight_166 (by decide) ?_
    refine Cv1_1 (d := 6) cv_L_38 dL_areSacksRight_168 (v_X7_account hA h1 hn (q := 7) (by decide) (v := nI r) er) (hp0 hA) rfl rfl (Nat.le_of_ble_eq_true rfl) ⟨Nat.le_refl _, Nat.le_refl _⟩ (by decide) ⟨Nat.le_of_ble_eq_true rfl, Nat.le_of_ble_eq_true rfl⟩ ?_
    refine V_iadd dL_areSacksRight_171 ?_
    refine V_icmp_ne (tgt := 239) dL_areSacksRight_172 (by decide) (fun h172 => by first | exact absurd h172 (fun z => z (by rw [pk_mul, nI_add, show 3 * c = p + r by omega])) | exact absurd (fun z => z (by rw [pk_mul, nI_add, show 3 * c = p + r by omega])) h172) (fun _ => ?_)
    refine V_aload_n (i := 0) dL_areSacksRight_175 rfl rfl ?_
    refine V_bipush (v := (nI 6)) dL_areSacksRight_176 (by decide) ?_
    refine Cv1_1 (d := 6) cv_L_38 dL_areSacksRight_178 (v_X7_account hA h1 hn (q := 6) (by decide) (v := (S_sum (σ.1 5 0) nh 3)) rfl) (hp0 hA) rfl rfl (Nat.le_of_ble_eq_true rfl) ⟨Nat.le_refl _, Nat.le_refl _⟩ (by decide) ⟨Nat.le_of_ble_eq_true rfl, Nat.le_of_ble_eq_true rfl⟩ ?_
    refine V_aload_n (i := 0) dL_areSacksRight_181 rfl rfl ?_
    refine V_iconst (v := (nI 3)) dL_areSacksRight_182 (by decide) ?_
    refine Cs1_2 (d := 6) cs_L_87 dL_areSacksRight_183 (v_L_sum hA h1 hn (q := 3) (by decide) (v := (S_sum (σ.1 5 0) nh 3)) rfl) (Nat.le_of_ble_eq_true rfl) ⟨Nat.le_refl _, Nat.le_refl _⟩ (by decide) ⟨Nat.le_of_ble_eq_true rfl, Nat.le_of_ble_eq_true rfl⟩ ?_
    refine V_icmp_ne (tgt := 239) dL_areSacksRight_186 (by decide) (fun h186 => by first | exact absurd h186 (fun z => z rfl) | exact absurd (fun z => z rfl) h186) (fun _ => ?_)
    refine V_aload_n (i := 0) dL_areSacksRight_189 rfl rfl ?_
    refine V_bipush (v := (nI 7)) dL_areSacksRight_190 (by decide) ?_
    refine Cv1_1 (d := 6) cv_L_38 dL_areSacksRight_192 (v_X7_account hA h1 hn (q := 7) (by decide) (v := nI r) er) (hp0 hA) rfl rfl (Nat.le_of_ble_eq_true rfl) ⟨Nat.le_refl _, Nat.le_refl _⟩ (by decide) ⟨Nat.le_of_ble_eq_true rfl, Nat.le_of_ble_eq_true rfl⟩ ?_
    refine V_aload_n (i := 0) dL_areSacksRight_195 rfl rfl ?_
    refine V_iconst (v := (nI 4)) dL_areSacksRight_196 (by decide) ?_
    refine Cs1_2 (d := 6) cs_L_87 dL_areSacksRight_197 (v_L_sum hA h1 hn (q := 4) (by decide) (v := nI r) er) (Nat.le_of_ble_eq_true rfl) ⟨Nat.le_refl _, Nat.le_refl _⟩ (by decide) ⟨Nat.le_of_ble_eq_true rfl, Nat.le_of_ble_eq_true rfl⟩ ?_
    refine V_icmp_ne (tgt := 239) dL_areSacksRight_200 (by decide) (fun h200 => by first | exact absurd h200 (fun z => z rfl) | exact absurd (fun z => z rfl) h200) (fun _ => ?_)
    refine V_aload_n (i := 0) dL_areSacksRight_203 rfl rfl ?_
    refine V_bipush (v := (nI 8)) dL_areSacksRight_204 (by decide) ?_
    refine Cv1_1 (d := 6) cv_L_38 dL_areSacksRight_206 (v_X7_account hA h1 hn (q := 8) (by decide) (v := (S_sum (σ.1 5 0) nh 5)) rfl) (hp0 hA) rfl rfl (Nat.le_of_ble_eq_true rfl) ⟨Nat.le_refl _, Nat.le_refl _⟩ (by decide) ⟨Nat.le_of_ble_eq_true rfl, Nat.le_of_ble_eq_true rfl⟩ ?_
    refine V_aload_n (i := 0) dL_areSacksRight_209 rfl rfl ?_
    refine V_iconst (v := (nI 5)) dL_areSacksRight_210 (by decide) ?_
    refine Cs1_2 (d := 6) cs_L_87 dL_areSacksRight_211 (v_L_sum hA h1 hn (q := 5) (by decide) (v := (S_sum (σ.1 5 0) nh 5)) rfl) (Nat.le_of_ble_eq_true rfl) ⟨Nat.le_refl _, Nat.le_refl _⟩ (by decide) ⟨Nat.le_of_ble_eq_true rfl, Nat.le_of_ble_eq_true rfl⟩ ?_
    refine V_icmp_ne (tgt := 239) dL_areSacksRight_214 (by decide) (fun h214 => by first | exact absurd h214 (fun z => z rfl) | exact absurd (fun z => z rfl) h214) (fun _ => ?_)
    refine V_aload_n (i := 0) dL_areSacksRight_217 rfl rfl ?_
    refine V_bipush (v := (nI 9)) dL_areSacksRight_218 (by decide) ?_
    refine Cv1_1 (d := 6) cv_L_38 dL_areSacksRight_220 (v_X7_account hA h1 hn (q := 9) (by decide) (v := nI q) jq) (hp0 hA) rfl rfl (Nat.le_of_ble_eq_true rfl) ⟨Nat.le_refl _, Nat.le_refl _⟩ (by decide) ⟨Nat.le_of_ble_eq_true rfl, Nat.le_of_ble_eq_true rfl⟩ ?_
    refine V_if_lt (tgt := 239) dL_areSacksRight_223 (by decide) (fun h223 => by first | exact absurd h223 (nI_pos (by omega)) | exact absurd (nI_pos (by omega)) h223) (fun _ => ?_)
    refine V_aload_n (i := 0) dL_areSacksRight_226 rfl rfl ?_
    refine V_bipush (v := (nI 11)) dL_areSacksRight_227 (by decide) ?_
    refine Cv1_1 (d := 6) cv_L_38 dL_areSacksRight_229 (v_X7_account hA h1 hn (q := 11) (by decide) (v := nI b) eb) (hp0 hA) rfl rfl (Nat.le_of_ble_eq_true rfl) ⟨Nat.le_refl _, Nat.le_refl _⟩ (by decide) ⟨Nat.le_of_ble_eq_true rfl, Nat.le_of_ble_eq_true rfl⟩ ?_
    refine V_if_lt (tgt := 239) dL_areSacksRight_232 (by decide) (fun h232 => by first | exact absurd h232 (nI_pos (by omega)) | exact absurd (nI_pos (by omega)) h232) (fun _ => ?_)
    refine V_iconst (v := (nI 1)) dL_areSacksRight_235 (by decide) ?_
    refine V_goto (tgt := 240) dL_areSacksRight_236 (by decide) ?_
    refine V_istore_n (i := 2) dL_areSacksRight_240 rfl (by decide) ?_
    refine V_iload_n (i := 2) dL_areSacksRight_241 rfl rfl ?_
    refine V_if_eq (tgt := 295) dL_areSacksRight_242 (by decide) (fun h242 => by first | exact absurd h242 (by decide) | exact absurd (by decide) h242) (fun _ => ?_)
    refine V_aload_n (i := 0) dL_areSacksRight_245 rfl rfl ?_
    refine Cv1_0 (d := 6) cv_L_91 dL_areSacksRight_246 (v_X7_meanArrears hA h1 hn h0 (rr := nI r) er) (hp0 hA) rfl rfl (Nat.le_of_ble_eq_true rfl) ⟨Nat.le_refl _, Nat.le_refl _⟩ (by decide) ⟨Nat.le_of_ble_eq_true rfl, Nat.le_of_ble_eq_true rfl⟩ ?_
    refine V_aload_n (i := 0) dL_areSacksRight_249 rfl rfl ?_
    refine V_bipush (v := (nI 7)) dL_areSacksRight_250 (by decide) ?_
    refine Cv1_1 (d := 6) cv_L_38 dL_areSacksRight_252 (v_X7_account hA h1 hn (q := 7) (by decide) (v := nI r) er) (hp0 hA) rfl rfl (Nat.le_of_ble_eq_true rfl) ⟨Nat.le_refl _, Nat.le_refl _⟩ (by decide) ⟨Nat.le_of_ble_eq_true rfl, Nat.le_of_ble_eq_true rfl⟩ ?_
    refine V_i2f dL_areSacksRight_255 ?_
    refine V_aload_n (i := 0) dL_areSacksRight_256 rfl rfl ?_
    refine V_iconst (v := (nI 1)) dL_areSacksRight_257 (by decide) ?_
    refine Cv1_1 (d := 6) cv_L_38 dL_areSacksRight_258 (v_X7_account hA h1 hn (q := 1) (by decide) (v := nI nh) h1) (hp0 hA) rfl rfl (Nat.le_of_ble_eq_true rfl) ⟨Nat.le_refl _, Nat.le_refl _⟩ (by decide) ⟨Nat.le_of_ble_eq_true rfl, Nat.le_of_ble_eq_true rfl⟩ ?_
    refine V_i2f dL_areSacksRight_261 ?_
    refine V_fdiv dL_areSacksRight_262 (fdiv_n h0) ?_
    refine V_fcmp dL_areSacksRight_263 ?_
    refine V_if_ne (tgt := 295) dL_areSacksRight_264 (by decide) (fun h264 => by first | exact absurd h264 (fun z => z (fc_eq h0)) | exact absurd (fun z => z (fc_eq h0)) h264) (fun _ => ?_)
    refine V_iload_n (i := 1) dL_areSacksRight_267 rfl rfl ?_
    refine V_if_eq (tgt := 291) dL_areSacksRight_268 (by decide) (fun h268 => ?_) (fun h268 => ?_)
    · refine V_iconst (v := (nI 1)) dL_areSacksRight_291 (by decide) ?_
      refine V_goto (tgt := 296) dL_areSacksRight_292 (by decide) ?_
      refine V_zret dL_areSacksRight_296 rfl (by first | rfl | exact bi_n _) (Nat.le_of_ble_eq_true rfl) (Nat.le_of_ble_eq_true rfl) ?_
      exact ⟨rfl, rfl⟩
    · have h3 : ¬ nI 3 * nI c = 0 := by
        rw [pk_mul]
        exact nI_ne0 (by have := nc0 h268; omega) (by omega)
      refine V_aload_n (i := 0) dL_areSacksRight_271 rfl rfl ?_
      refine Cv1_0 (d := 6) cv_L_95 dL_areSacksRight_272 (v_X7_paidShare hA h1 hn (p := nI p) (t := nI 3 * nI c) jp et h3) (hp0 hA) rfl rfl (Nat.le_of_ble_eq_true rfl) ⟨Nat.le_refl _, Nat.le_refl _⟩ (by decide) ⟨Nat.le_of_ble_eq_true rfl, Nat.le_of_ble_eq_true rfl⟩ ?_
      refine V_aload_n (i := 0) dL_areSacksRight_275 rfl rfl ?_
      refine V_bipush (v := (nI 10)) dL_areSacksRight_276 (by decide) ?_
      refine Cv1_1 (d := 6) cv_L_38 dL_areSacksRight_278 (v_X7_account hA h1 hn (q := 10) (by decide) (v := nI p) jp) (hp0 hA) rfl rfl (Nat.le_of_ble_eq_true rfl) ⟨Nat.le_refl _, Nat.le_refl _⟩ (by decide) ⟨Nat.le_of_ble_eq_true rfl, Nat.le_of_ble_eq_true rfl⟩ ?_
      refine V_i2d dL_areSacksRight_281 ?_
      refine V_iconst (v := (nI 3)) dL_areSacksRight_282 (by decide) ?_
      refine V_iload_n (i := 1) dL_areSacksRight_283 rfl rfl ?_
      refine V_imul dL_areSacksRight_284 ?_
      refine V_i2d dL_areSacksRight_285 ?_
      refine V_ddiv dL_areSacksRight_286 (ddiv_n h3) ?_
      refine V_dcmp dL_areSacksRight_287 ?_
      refine V_if_ne (tgt := 295) dL_areSacksRight_288 (by decide) (fun h288 => by first | exact absurd h288 (fun z => z (dc_eq h3)) | exact absurd (fun z => z (dc_eq h3)) h288) (fun _ => ?_)
      refine V_iconst (v := (nI 1)) dL_areSacksRight_291 (by decide) ?_
      refine V_goto (tgt := 296) dL_areSacksRight_292 (by decide) ?_
      refine V_zret dL_areSacksRight_296 rfl (by first | rfl | exact bi_n _) (Nat.le_of_ble_eq_true rfl) (Nat.le_of_ble_eq_true rfl) ?_
      exact ⟨rfl, rfl⟩
  have lc : ∀ n i : Nat, i + n = nc → V D s0 RL "areSacksRight" cL_areSacksRight 4 ((some .boolean)) [] l (rmd 6 0 0) (Zm D s0 0 0 (fun r G' => r = some (.int 1) ∧ G' = HP A σ) noX) 6 [(0, .ref (A 0 0 0)), (1, .int (nI (ns k i))), (2, .int (nI 1)), (3, .int (nI i))] [] (HP A σ) 0 0 := by
    intro n
    induction n with
    | zero =>
      intro i hi9
      obtain rfl : i = nc := by omega
      refine V_iload_n (i := 3) dL_areSacksRight_6 rfl rfl ?_
      refine V_aload_n (i := 0) dL_areSacksRight_7 rfl rfl ?_
      refine V_iconst (v := (nI 2)) dL_areSacksRight_8 (by decide) ?_
      refine Cv1_1 (d := 6) cv_L_38 dL_areSacksRight_9 (v_X7_account hA h1 hn (q := 2) (by decide) (v := nI i) h2) (hp0 hA) rfl rfl (Nat.le_of_ble_eq_true rfl) ⟨Nat.le_refl _, Nat.le_refl _⟩ (by decide) ⟨Nat.le_of_ble_eq_true rfl, Nat.le_of_ble_eq_true rfl⟩ ?_
      refine V_icmp_ge (tgt := 80) dL_areSacksRight_12 (by decide) (fun _ => ?_) (fun h12 => by first | exact absurd (nI_le (Nat.le_refl _) (by omega)) h12 | exact absurd h12 (nI_le (Nat.le_refl _) (by omega)))
      rw [hk]
      exact V.fin [0, 1, 2] rfl rfl fin
    | succ n ih =>
      intro i hi9
      have hi8 : i < nc := by omega
      have k9 := ih (i + 1) (by omega)
      obtain ⟨t, ht, et1⟩ := hF.2.1.k (c := i) (f := 1) (by omega) (by decide) rfl
      obtain ⟨g, hg, eg1⟩ := hF.2.1.k (c := i) (f := 2) (by omega) (by decide) rfl
      have ek := (j2 i (by omega)).1
      refine V_iload_n (i := 3) dL_areSacksRight_6 rfl rfl ?_
      refine V_aload_n (i := 0) dL_areSacksRight_7 rfl rfl ?_
      refine V_iconst (v := (nI 2)) dL_areSacksRight_8 (by decide) ?_
      refine Cv1_1 (d := 6) cv_L_38 dL_areSacksRight_9 (v_X7_account hA h1 hn (q := 2) (by decide) (v := nI nc) h2) (hp0 hA) rfl rfl (Nat.le_of_ble_eq_true rfl) ⟨Nat.le_refl _, Nat.le_refl _⟩ (by decide) ⟨Nat.le_of_ble_eq_true rfl, Nat.le_of_ble_eq_true rfl⟩ ?_
      refine V_icmp_ge (tgt := 80) dL_areSacksRight_12 (by decide) (fun h12 => by first | exact absurd h12 (nI_ge (by omega) (by omega)) | exact absurd (nI_ge (by omega) (by omega)) h12) (fun _ => ?_)
      refine V_iload_n (i := 1) dL_areSacksRight_15 rfl rfl ?_
      refine V_aload_n (i := 0) dL_areSacksRight_16 rfl rfl ?_
      refine V_iload_n (i := 3) dL_areSacksRight_17 rfl rfl ?_
      refine V_iconst (v := (nI 3)) dL_areSacksRight_18 (by decide) ?_
      refine Cv1_2 (d := 6) cv_L_75 dL_areSacksRight_19 (v_X7_carrierOf hA h2 hc (j := i) (q := 3) hi8 (by decide) (v := nI (k i)) ek) (hp0 hA) rfl rfl (Nat.le_of_ble_eq_true rfl) ⟨Nat.le_refl _, Nat.le_refl _⟩ (by decide) ⟨Nat.le_of_ble_eq_true rfl, Nat.le_of_ble_eq_true rfl⟩ ?_
      refine V_iadd dL_areSacksRight_22 ?_
      rw [nI_add]
      refine V_istore_n (i := 1) dL_areSacksRight_23 rfl (by decide) ?_
      refine V_iload_n (i := 2) dL_areSacksRight_24 rfl rfl ?_
      refine V_if_eq (tgt := 72) dL_areSacksRight_25 (by decide) (fun h25 => by first | exact absurd h25 (by decide) | exact absurd (by decide) h25) (fun _ => ?_)
      refine V_aload_n (i := 0) dL_areSacksRight_28 rfl rfl ?_
      refine V_iload_n (i := 3) dL_areSacksRight_29 rfl rfl ?_
      refine V_iconst (v := (nI 1)) dL_areSacksRight_30 (by decide) ?_
      refine Cv1_2 (d := 6) cv_L_75 dL_areSacksRight_31 (v_X7_carrierOf hA h2 hc (j := i) (q := 1) hi8 (by decide) (v := nI t) et1) (hp0 hA) rfl rfl (Nat.le_of_ble_eq_true rfl) ⟨Nat.le_refl _, Nat.le_refl _⟩ (by decide) ⟨Nat.le_of_ble_eq_true rfl, Nat.le_of_ble_eq_true rfl⟩ ?_
      refine V_if_lt (tgt := 72) dL_areSacksRight_34 (by decide) (fun h34 => by first | exact absurd h34 (nI_pos (by omega)) | exact absurd (nI_pos (by omega)) h34) (fun _ => ?_)
      refine V_aload_n (i := 0) dL_areSacksRight_37 rfl rfl ?_
      refine V_iload_n (i := 3) dL_areSacksRight_38 rfl rfl ?_
      refine V_iconst (v := (nI 1)) dL_areSacksRight_39 (by decide) ?_
      refine Cv1_2 (d := 6) cv_L_75 dL_areSacksRight_40 (v_X7_carrierOf hA h2 hc (j := i) (q := 1) hi8 (by decide) (v := nI t) et1) (hp0 hA) rfl rfl (Nat.le_of_ble_eq_true rfl) ⟨Nat.le_refl _, Nat.le_refl _⟩ (by decide) ⟨Nat.le_of_ble_eq_true rfl, Nat.le_of_ble_eq_true rfl⟩ ?_
      refine V_bipush (v := (nI 30)) dL_areSacksRight_43 (by decide) ?_
      refine V_icmp_gt (tgt := 72) dL_areSacksRight_45 (by decide) (fun h45 => by first | exact absurd h45 (nI_nlt ht (by decide)) | exact absurd (nI_nlt ht (by decide)) h45) (fun _ => ?_)
      refine V_aload_n (i := 0) dL_areSacksRight_48 rfl rfl ?_
      refine V_iload_n (i := 3) dL_areSacksRight_49 rfl rfl ?_
      refine V_iconst (v := (nI 2)) dL_areSacksRight_50 (by decide) ?_
      refine Cv1_2 (d := 6) cv_L_75 dL_areSacksRight_51 (v_X7_carrierOf hA h2 hc (j := i) (q := 2) hi8 (by decide) (v := nI g) eg1) (hp0 hA) rfl rfl (Nat.le_of_ble_eq_true rfl) ⟨Nat.le_refl _, Nat.le_refl _⟩ (by decide) ⟨Nat.le_of_ble_eq_true rfl, Nat.le_of_ble_eq_true rfl⟩ ?_
      refine V_if_lt (tgt := 72) dL_areSacksRight_54 (by decide) (fun h54 => by first | exact absurd h54 (nI_pos (by omega)) | exact absurd (nI_pos (by omega)) h54) (fun _ => ?_)
      refine V_aload_n (i := 0) dL_areSacksRight_57 rfl rfl ?_
      refine V_iload_n (i := 3) dL_areSacksRight_58 rfl rfl ?_
      refine V_iconst (v := (nI 2)) dL_areSacksRight_59 (by decide) ?_
      refine Cv1_2 (d := 6) cv_L_75 dL_areSacksRight_60 (v_X7_carrierOf hA h2 hc (j := i) (q := 2) hi8 (by decide) (v := nI g) eg1) (hp0 hA) rfl rfl (Nat.le_of_ble_eq_true rfl) ⟨Nat.le_refl _, Nat.le_refl _⟩ (by decide) ⟨Nat.le_of_ble_eq_true rfl, Nat.le_of_ble_eq_true rfl⟩ ?_
      refine V_bipush (v := (nI 9)) dL_areSacksRight_63 (by decide) ?_
      refine V_icmp_gt (tgt := 72) dL_areSacksRight_65 (by decide) (fun h65 => by first | exact absurd h65 (nI_nlt hg (by decide)) | exact absurd (nI_nlt hg (by decide)) h65) (fun _ => ?_)
      refine V_iconst (v := (nI 1)) dL_areSacksRight_68 (by decide) ?_
      refine V_goto (tgt := 73) dL_areSacksRight_69 (by decide) ?_
      refine V_istore_n (i := 2) dL_areSacksRight_73 rfl (by decide) ?_
      refine V_iinc (i := 3) dL_areSacksRight_74 rfl (inc1 _) (by decide) ?_
      refine V_goto (tgt := 6) dL_areSacksRight_77 (by decide) ?_
      exact V.fin [3, 2, 1, 0] rfl rfl k9
  refine V_iconst (v := (nI 0)) dL_areSacksRight_0 (by decide) ?_
  refine V_istore_n (i := 1) dL_areSacksRight_1 rfl (by decide) ?_
  refine V_iconst (v := (nI 1)) dL_areSacksRight_2 (by decide) ?_
  refine V_istore_n (i := 2) dL_areSacksRight_3 rfl (by decide) ?_
  refine V_iconst (v := (nI 0)) dL_areSacksRight_4 (by decide) ?_
  refine V_istore_n (i := 3) dL_areSacksRight_5 rfl (by decide) ?_
  exact V.fin [3, 2, 1, 0] rfl rfl (lc nc 0 (by omega))

