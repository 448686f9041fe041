/-! the reference: a house's line, its characters -/
theorem t_X8_ofp {D : va_G} {s0 : State} {l : Launch} {B : Nat} {A : AT} {σ : Sg} (hA : AOK B A) {h f : Nat} (hh : h < 8) (hf : f < 9) : Tri D s0 l yX8_of cX8_of 3 ((some .int)) 0 0 0 [.ref (A 20 0 0), .int (nI h), .int (nI f)] (HP A σ) (fun r G' => r = some (.int (σ.1 21 0 (hx h f))) ∧ G' = HP A σ) noX := by
  have := t_X8_of (D := D) (s0 := s0) (l := l) (σ := σ) (P := (σ.1 20 0 15, σ.1 20 0 16)) (u := σ.1 21 0) hA hh hf
  rw [← rs_id] at this
  exact this
theorem t_X8_isHousep {D : va_G} {s0 : State} {l : Launch} {B : Nat} {A : AT} {σ : Sg} (hA : AOK B A) {nh : Nat} (h1 : σ.1 21 0 1 = nI nh) {x : Int32} : Tri D s0 l yX8_isHouse cX8_isHouse 2 ((some .boolean)) 1 0 0 [.ref (A 20 0 0), .int x] (HP A σ) (fun r G' => r = some (.int (bi (!ob x 0 (nI nh - 1)))) ∧ G' = HP A σ) noX := by
  have := t_X8_isHouse (D := D) (s0 := s0) (l := l) (σ := σ) (P := (σ.1 20 0 15, σ.1 20 0 16)) (u := σ.1 21 0) hA h1 (x := x)
  rw [← rs_id] at this
  exact this
def wN (σ : Sg) (p v : Nat) : Sg := if v < 10 then w3 σ 26 0 p (nI (48 + v)) else w3 (w3 σ 26 0 p (nI (48 + v / 10))) 26 0 (p + 1) (nI (48 + v % 10))
/-- the text so far, p characters long -/
def LnP (σ ρ : Sg) (T : List Nat) (p : Nat) : Prop := p = T.length ∧ (∀ a, ¬ a = 26 → ρ.1 a = σ.1 a) ∧ ρ.2 = σ.2 ∧ ∀ i, i < T.length → ρ.1 26 0 i = nI (T.getD i 0)
theorem LnP.z {σ : Sg} : LnP σ σ [] 0 := ⟨rfl, fun _ _ => rfl, rfl, fun i hi => absurd hi (Nat.not_lt_zero i)⟩
theorem LnP.put {σ ρ : Sg} {T : List Nat} {p c : Nat} (h : LnP σ ρ T p) : LnP σ (w3 ρ 26 0 p (nI c)) (T ++ [c]) (p + 1) := by
  obtain ⟨rfl, h1, h2, h3⟩ := h
  refine ⟨by rw [List.length_append, List.length_singleton], fun a z => (funext fun b => funext fun d => w3_ne (fun q => z q.1)).trans (h1 a z), h2, fun i hi => ?_⟩
  rw [List.length_append, List.length_singleton] at hi
  by_cases e : i = T.length
  · rw [e, w3_eq, getD_r (Nat.le_refl _), Nat.sub_self]
    rfl
  · rw [w3_ne (by omega), getD_l (by omega)]
    exact h3 i (by omega)
theorem LnP.num {σ ρ : Sg} {T : List Nat} {p v : Nat} (h : LnP σ ρ T p) : LnP σ (wN ρ p v) (T ++ dig v) (p + dgN v) := by
  unfold wN dig dgN
  split
  · exact h.put
  · have := (h.put (c := 48 + v / 10)).put (c := 48 + v % 10)
    rw [List.append_assoc] at this
    exact this

set_option maxHeartbeats 4000000 in
set_option maxRecDepth 100000 in
theorem t_X8_put {D : va_G} {s0 : State} {l : Launch} {B : Nat} {A : AT} {σ : Sg} (hA : AOK B A) {p : Nat} (hp : p < 40) {c : Int32} : Tri D s0 l yX8_put cX8_put 3 ((some .int)) 0 0 0 [.ref (A 20 0 0), .int (nI p), .int c] (HP A σ) (fun r G' => r = some (.int (nI (p + 1))) ∧ G' = HP A (w3 σ 26 0 p c)) noX := by
  refine Tri.ofV (own := RX8) (mn := "put") (by decide +kernel) rfl rfl (Nat.le_of_ble_eq_true rfl) ?_
  refine V_aload_n (i := 0) dX8_put_0 rfl rfl ?_
  refine V_getf fl_X8_29 dX8_put_1 (hp20 hA) rfl ?_
  refine V_iload_n (i := 1) dX8_put_4 rfl rfl ?_
  refine V_iload_n (i := 2) dX8_put_5 rfl rfl ?_
  refine VA_26 dX8_put_6 hA rfl hp ?_
  refine V_iload_n (i := 1) dX8_put_7 rfl rfl ?_
  refine V_iconst (v := 1) dX8_put_8 (by decide) ?_
  refine V_iadd dX8_put_9 ?_
  rw [show nI p + 1 = nI (p + 1) from nI_add p 1]
  refine V_iret dX8_put_10 rfl (Nat.le_of_ble_eq_true rfl) (Nat.le_of_ble_eq_true rfl) ?_
  exact ⟨rfl, rfl⟩

set_option maxHeartbeats 4000000 in
set_option maxRecDepth 100000 in
theorem t_X8_writesNumber {D : va_G} {s0 : State} {l : Launch} {B : Nat} {A : AT} {σ : Sg} (hA : AOK B A) {p v : Nat} (hv : v < 100) (hp : p + 2 ≤ 40) : Tri D s0 l yX8_writesNumber cX8_writesNumber 4 ((some .int)) 1 0 0 [.ref (A 20 0 0), .int (nI p), .int (nI v)] (HP A σ) (fun r G' => r = some (.int (nI (p + dgN v))) ∧ G' = HP A (wN σ p v)) noX := by
  refine Tri.ofV (own := RX8) (mn := "writesNumber") (by decide +kernel) rfl rfl (Nat.le_of_ble_eq_true rfl) ?_
  have er : (48 : Int32) + (nI v - nI v / 10 * 10) = nI (48 + v % 10) := by rw [show (10 : Int32) = nI 10 from rfl, pk_rem (a := v) (d := 10) (by omega) (by decide) (by decide)]; exact nI_add 48 _
  have ed : (48 : Int32) + nI v / 10 = nI (48 + v / 10) := by rw [show (10 : Int32) = nI 10 from rfl, pk_div (by omega) (by decide) (by decide)]; exact nI_add 48 _
  by_cases h10 : v < 10
  · refine V_iload_n (i := 2) dX8_writesNumber_0 rfl rfl ?_
    refine V_bipush (v := nI 10) dX8_writesNumber_1 (by decide) ?_
    refine V_icmp_ge (tgt := 10) dX8_writesNumber_3 (by decide) (fun h3 => by first | exact absurd h3 (nI_ge h10 (by omega)) | exact absurd (nI_ge h10 (by omega)) h3) (fun _ => ?_)
    refine V_iload_n (i := 1) dX8_writesNumber_6 rfl rfl ?_
    refine V_goto (tgt := 22) dX8_writesNumber_7 (by decide) ?_
    refine V_istore_n (i := 3) dX8_writesNumber_22 rfl (by decide) ?_
    refine V_aload_n (i := 0) dX8_writesNumber_23 rfl rfl ?_
    refine V_iload_n (i := 3) dX8_writesNumber_24 rfl rfl ?_
    refine V_bipush (v := 48) dX8_writesNumber_25 (by decide) ?_
    refine V_iload_n (i := 2) dX8_writesNumber_27 rfl rfl ?_
    refine V_bipush (v := 10) dX8_writesNumber_28 (by decide) ?_
    refine V_irem dX8_writesNumber_30 (by decide) ?_
    refine V_iadd dX8_writesNumber_31 ?_
    rw [er]
    refine Cv1_2 (d := 1) cv_X8_172 dX8_writesNumber_32 (t_X8_put hA (by omega)) (hp20 hA) rfl rfl (Nat.le_of_ble_eq_true rfl) ⟨Nat.le_refl _, Nat.le_refl _⟩ (by decide) ⟨Nat.le_of_ble_eq_true rfl, Nat.le_of_ble_eq_true rfl⟩ ?_
    refine V_iret dX8_writesNumber_35 rfl (Nat.le_of_ble_eq_true rfl) (Nat.le_of_ble_eq_true rfl) ?_
    refine ⟨by rw [dgN, if_pos h10], ?_⟩
    rw [wN, if_pos h10, show v % 10 = v by omega]
  · refine V_iload_n (i := 2) dX8_writesNumber_0 rfl rfl ?_
    refine V_bipush (v := nI 10) dX8_writesNumber_1 (by decide) ?_
    refine V_icmp_ge (tgt := 10) dX8_writesNumber_3 (by decide) (fun _ => ?_) (fun h3 => by first | exact absurd (nI_le (by omega) (by omega)) h3 | exact absurd h3 (nI_le (by omega) (by omega)))
    refine V_aload_n (i := 0) dX8_writesNumber_10 rfl rfl ?_
    refine V_iload_n (i := 1) dX8_writesNumber_11 rfl rfl ?_
    refine V_bipush (v := 48) dX8_writesNumber_12 (by decide) ?_
    refine V_iload_n (i := 2) dX8_writesNumber_14 rfl rfl ?_
    refine V_bipush (v := 10) dX8_writesNumber_15 (by decide) ?_
    refine V_idiv dX8_writesNumber_17 (by decide) ?_
    refine V_iadd dX8_writesNumber_18 ?_
    rw [ed]
    refine Cv1_2 (d := 1) cv_X8_172 dX8_writesNumber_19 (t_X8_put hA (by omega)) (hp20 hA) rfl rfl (Nat.le_of_ble_eq_true rfl) ⟨Nat.le_refl _, Nat.le_refl _⟩ (by decide) ⟨Nat.le_of_ble_eq_true rfl, Nat.le_of_ble_eq_true rfl⟩ ?_
    refine V_istore_n (i := 3) dX8_writesNumber_22 rfl (by decide) ?_
    refine V_aload_n (i := 0) dX8_writesNumber_23 rfl rfl ?_
    refine V_iload_n (i := 3) dX8_writesNumber_24 rfl rfl ?_
    refine V_bipush (v := 48) dX8_writesNumber_25 (by decide) ?_
    refine V_iload_n (i := 2) dX8_writesNumber_27 rfl rfl ?_
    refine V_bipush (v := 10) dX8_writesNumber_28 (by decide) ?_
    refine V_irem dX8_writesNumber_30 (by decide) ?_
    refine V_iadd dX8_writesNumber_31 ?_
    rw [er]
    refine Cv1_2 (d := 1) cv_X8_172 dX8_writesNumber_32 (t_X8_put hA (by omega)) (hp20 hA) rfl rfl (Nat.le_of_ble_eq_true rfl) ⟨Nat.le_refl _, Nat.le_refl _⟩ (by decide) ⟨Nat.le_of_ble_eq_true rfl, Nat.le_of_ble_eq_true rfl⟩ ?_
    refine V_iret dX8_writesNumber_35 rfl (Nat.le_of_ble_eq_true rfl) (Nat.le_of_ble_eq_true rfl) ?_
    refine ⟨by rw [dgN, if_neg h10], ?_⟩
    rw [wN, if_neg h10]

def dogR (b d : Int32) : List Nat := if d = 0 then [] else if b = 1 then [98] else if d = 1 then [122] else [33]
def lnR (w : Nat → Int32) (h : Nat) : List Nat := (lnB w h ++ List.replicate (lnC w h) 35) ++ dogR (w (hx h 7)) (w (hx h 1))
theorem dogR_1 {b d : Int32} (h : d = 0) : dogR b d = [] := if_pos h
theorem dogR_2 {b d : Int32} (h : ¬ d = 0) (h2 : b = 1) : dogR b d = [98] := by
  rw [dogR, if_neg h, if_pos h2]
theorem dogR_3 {b d : Int32} (h : ¬ d = 0) (h2 : ¬ b = 1) (h3 : d = 1) : dogR b d = [122] := by
  rw [dogR, if_neg h, if_neg h2, if_pos h3]
theorem dogR_4 {b d : Int32} (h : ¬ d = 0) (h2 : ¬ b = 1) (h3 : ¬ d = 1) : dogR b d = [33] := by
  rw [dogR, if_neg h, if_neg h2, if_neg h3]
def lnRP (A : AT) (σ : Sg) (nh : Nat) (x : Int32) (r : Option Value) (G' : GH) : Prop :=
  (ob x 0 (nI nh - 1) = true ∧ r = some (.int 0) ∧ G' = HP A (tS σ 1)) ∨ ∃ (h p : Nat) (ρ : Sg), h < nh ∧ x = nI h ∧ LnP (tS σ 0) ρ (lnR (σ.1 21 0) h) p ∧ r = some (.int (nI p)) ∧ G' = HP A (w3 ρ 20 0 14 (nI p))

set_option maxHeartbeats 4000000 in
set_option maxRecDepth 100000 in
theorem t_X8_line {D : va_G} {s0 : State} {l : Launch} {B : Nat} {A : AT} {σ : Sg} (hA : AOK B A) {m nh : Nat} (hW : Wok m (σ.1 21 0)) (h1 : σ.1 21 0 1 = nI nh) (hn : nh ≤ 8) {x : Int32} : Tri D s0 l yX8_line cX8_line 4 ((some .int)) 2 0 0 [.ref (A 20 0 0), .int x] (HP A σ) (lnRP A σ nh x) noX := by
  refine Tri.ofV (own := RX8) (mn := "line") (by decide +kernel) rfl rfl (Nat.le_of_ble_eq_true rfl) ?_
  by_cases ho : ob x 0 (nI nh - 1) = true
  · refine V_aload_n (i := 0) dX8_line_0 rfl rfl ?_
    refine V_aload_n (i := 0) dX8_line_1 rfl rfl ?_
    refine V_iload_n (i := 1) dX8_line_2 rfl rfl ?_
    refine Cv1_1 (d := 2) cv_X8_104 dX8_line_3 (t_X8_isHousep hA h1) (hp20 hA) rfl rfl (Nat.le_of_ble_eq_true rfl) ⟨Nat.le_refl _, Nat.le_refl _⟩ (by decide) ⟨Nat.le_of_ble_eq_true rfl, Nat.le_of_ble_eq_true rfl⟩ ?_
    refine V_if_eq (tgt := 13) dX8_line_6 (by decide) (fun _ => ?_) (fun h6 => by first | exact absurd ((by rw [ho]; rfl)) h6 | exact absurd h6 ((by rw [ho]; rfl)))
    refine V_iconst (v := 1) dX8_line_13 (by decide) ?_
    refine VP_20_6 fl_X8_38 dX8_line_14 hA ?_
    refine V_aload_n (i := 0) dX8_line_17 rfl rfl ?_
    refine V_getf fl_X8_38 dX8_line_18 (hp20 hA) rfl ?_
    refine V_if_eq (tgt := 26) dX8_line_21 (by decide) (fun h21 => by first | exact absurd h21 ((by rw [w3_eq]; decide)) | exact absurd ((by rw [w3_eq]; decide)) h21) (fun _ => ?_)
    refine V_iconst (v := 0) dX8_line_24 (by decide) ?_
    refine V_iret dX8_line_25 rfl (Nat.le_of_ble_eq_true rfl) (Nat.le_of_ble_eq_true rfl) ?_
    exact Or.inl ⟨ho, rfl, rfl⟩
  · have ho2 : ob x 0 (nI nh - 1) = false := Bool.eq_false_iff.mpr ho
    obtain ⟨j, hj, rfl⟩ := ob_ex (by omega) ho2
    obtain ⟨a3, b3, e3⟩ := hW.1.h (i := j) (f := 3) (by omega) (by decide) rfl
    obtain ⟨a4, b4, e4⟩ := hW.1.h (i := j) (f := 4) (by omega) (by decide) rfl
    obtain ⟨a5, b5, e5⟩ := hW.1.h (i := j) (f := 5) (by omega) (by decide) rfl
    have n3 : nN (σ.1 21 0 (hx j 3)) = a3 := by rw [nN, e3, nI_clamp (by omega)]
    have n4 : nN (σ.1 21 0 (hx j 4)) = a4 := by rw [nN, e4, nI_clamp (by omega)]
    have n5 : nN (σ.1 21 0 (hx j 5)) = a5 := by rw [nN, e5, nI_clamp (by omega)]
    have d3 := dgN_le (v := a3)
    have d4 := dgN_le (v := a4)
    have dj : dgN j = 1 := by unfold dgN; rw [if_pos (by omega)]
    have s21 : (tS σ 0).1 21 = σ.1 21 := funext fun b => funext fun c => w3_ne (by omega)
    have hr : ∀ {ρ : Sg} {T : List Nat} {p : Nat}, LnP (tS σ 0) ρ T p → ∀ f, ρ.1 21 0 f = σ.1 21 0 f := fun h f => by rw [h.2.1 21 (by decide), s21]
    have eq3 : (nI a5 + 2) / 3 = nI ((a5 + 2) / 3) := by rw [show (2 : Int32) = nI 2 from rfl, show (3 : Int32) = nI 3 from rfl, nI_add, pk_div (by omega) (by decide) (by decide)]
    have hb7 := lnB_len (w := σ.1 21 0) (h := j) (by omega)
    have fin : ∀ (p : Nat) (ρ : Sg), p < 40 → LnP (tS σ 0) ρ (lnB (σ.1 21 0) j ++ List.replicate (lnC (σ.1 21 0) j) 35) p → V D s0 RX8 "line" cX8_line 4 ((some .int)) [] l (rmd 2 0 0) (Zm D s0 0 0 (lnRP A σ nh (nI j)) noX) 99 [(0, .ref (A 20 0 0)), (1, .int (nI j)), (2, .int (nI p))] [] (HP A ρ) 0 0 := by
      intro p ρ hp40 hq
      refine V_aload_n (i := 0) dX8_line_99 rfl rfl ?_
      refine V_iload_n (i := 1) dX8_line_100 rfl rfl ?_
      refine V_iconst (v := nI 1) dX8_line_101 (by decide) ?_
      refine Cv1_2 (d := 2) cv_X8_74 dX8_line_102 (t_X8_ofp (h := j) (f := 1) hA (by omega) (by decide)) (hp20 hA) rfl rfl (Nat.le_of_ble_eq_true rfl) ⟨Nat.le_refl _, Nat.le_refl _⟩ (by decide) ⟨Nat.le_of_ble_eq_true rfl, Nat.le_of_ble_eq_true rfl⟩ ?_
      rw [hr hq]
      refine V_istore_n (i := 3) dX8_line_105 rfl (by decide) ?_
      refine V_aload_n (i := 0) dX8_line_106 rfl rfl ?_
      refine V_iload_n (i := 3) dX8_line_107 rfl rfl ?_
      refine V_if_ne (tgt := 115) dX8_line_108 (by decide) (fun h108 => ?_) (fun h108 => ?_)
      · refine V_aload_n (i := 0) dX8_line_115 rfl rfl ?_
        refine V_iload_n (i := 2) dX8_line_116 rfl rfl ?_
        refine V_aload_n (i := 0) dX8_line_117 rfl rfl ?_
        refine V_iload_n (i := 1) dX8_line_118 rfl rfl ?_
        refine V_bipush (v := nI 7) dX8_line_119 (by decide) ?_
        refine Cv1_2 (d := 2) cv_X8_74 dX8_line_121 (t_X8_ofp (h := j) (f := 7) hA (by omega) (by decide)) (hp20 hA) rfl rfl (Nat.le_of_ble_eq_true rfl) ⟨Nat.le_refl _, Nat.le_refl _⟩ (by decide) ⟨Nat.le_of_ble_eq_true rfl, Nat.le_of_ble_eq_true rfl⟩ ?_
        rw [hr hq]
        refine V_iconst (v := 1) dX8_line_124 (by decide) ?_
        refine V_icmp_ne (tgt := 133) dX8_line_125 (by decide) (fun h125 => ?_) (fun h125 => ?_)
        · refine V_iload_n (i := 3) dX8_line_133 rfl rfl ?_
          refine V_iconst (v := 1) dX8_line_134 (by decide) ?_
          refine V_icmp_ne (tgt := 143) dX8_line_135 (by decide) (fun h135 => ?_) (fun h135 => ?_)
          · refine V_bipush (v := nI 33) dX8_line_143 (by decide) ?_
            refine Cv1_2 (d := 2) cv_X8_172 dX8_line_145 (t_X8_put hA hp40) (hp20 hA) rfl rfl (Nat.le_of_ble_eq_true rfl) ⟨Nat.le_refl _, Nat.le_refl _⟩ (by decide) ⟨Nat.le_of_ble_eq_true rfl, Nat.le_of_ble_eq_true rfl⟩ ?_
            refine VP_20_14 fl_X8_178 dX8_line_148 hA ?_
            refine V_aload_n (i := 0) dX8_line_151 rfl rfl ?_
            refine V_getf fl_X8_178 dX8_line_152 (hp20 hA) rfl ?_
            rw [w3_eq]
            refine V_iret dX8_line_155 rfl (Nat.le_of_ble_eq_true rfl) (Nat.le_of_ble_eq_true rfl) ?_
            refine Or.inr ⟨j, _, _, hj, rfl, ?_, rfl, rfl⟩
            unfold lnR
            first
              | (rw [dogR_1 (by assumption), List.append_nil]; exact hq)
              | (rw [dogR_2 (by assumption) (by assumption)]; exact hq.put)
              | (rw [dogR_3 (by assumption) (by assumption) (by assumption)]; exact hq.put)
              | (rw [dogR_4 (by assumption) (by assumption) (by assumption)]; exact hq.put)
          · refine V_bipush (v := nI 122) dX8_line_138 (by decide) ?_
            refine V_goto (tgt := 145) dX8_line_140 (by decide) ?_
            refine Cv1_2 (d := 2) cv_X8_172 dX8_line_145 (t_X8_put hA hp40) (hp20 hA) rfl rfl (Nat.le_of_ble_eq_true rfl) ⟨Nat.le_refl _, Nat.le_refl _⟩ (by decide) ⟨Nat.le_of_ble_eq_true rfl, Nat.le_of_ble_eq_true rfl⟩ ?_
            refine VP_20_14 fl_X8_178 dX8_line_148 hA ?_
            refine V_aload_n (i := 0) dX8_line_151 rfl rfl ?_
            refine V_getf fl_X8_178 dX8_line_152 (hp20 hA) rfl ?_
            rw [w3_eq]
            refine V_iret dX8_line_155 rfl (Nat.le_of_ble_eq_true rfl) (Nat.le_of_ble_eq_true rfl) ?_
            refine Or.inr ⟨j, _, _, hj, rfl, ?_, rfl, rfl⟩
            unfold lnR
            first
              | (rw [dogR_1 (by assumption), List.append_nil]; exact hq)
              | (rw [dogR_2 (by assumption) (by assumption)]; exact hq.put)
              | (rw [dogR_3 (by assumption) (by assumption) (by assumption)]; exact hq.put)
              | (rw [dogR_4 (by assumption) (by assumption) (by assumption)]; exact hq.put)
        · refine V_bipush (v := nI 98) dX8_line_128 (by decide) ?_
          refine V_goto (tgt := 145) dX8_line_130 (by decide) ?_
          refine Cv1_2 (d := 2) cv_X8_172 dX8_line_145 (t_X8_put hA hp40) (hp20 hA) rfl rfl (Nat.le_of_ble_eq_true rfl) ⟨Nat.le_refl _, Nat.le_refl _⟩ (by decide) ⟨Nat.le_of_ble_eq_true rfl, Nat.le_of_ble_eq_true rfl⟩ ?_
          refine VP_20_14 fl_X8_178 dX8_line_148 hA ?_
          refine V_aload_n (i := 0) dX8_line_151 rfl rfl ?_
          refine V_getf fl_X8_178 dX8_line_152 (hp20 hA) rfl ?_
          rw [w3_eq]
          refine V_iret dX8_line_155 rfl (Nat.le_of_ble_eq_true rfl) (Nat.le_of_ble_eq_true rfl) ?_
          refine Or.inr ⟨j, _, _, hj, rfl, ?_, rfl, rfl⟩
          unfold lnR
          first
            | (rw [dogR_1 (by assumption), List.append_nil]; exact hq)
            | (rw [dogR_2 (by assumption) (by assumption)]; exact hq.put)
            | (rw [dogR_3 (by assumption) (by assumption) (by assumption)]; exact hq.put)
            | (rw [dogR_4 (by assumption) (by assumption) (by assumption)]; exact hq.put)
      · refine V_iload_n (i := 2) dX8_line_111 rfl rfl ?_
        refine V_goto (tgt := 148) dX8_line_112 (by decide) ?_
        refine VP_20_14 fl_X8_178 dX8_line_148 hA ?_
        refine V_aload_n (i := 0) dX8_line_151 rfl rfl ?_
        refine V_getf fl_X8_178 dX8_line_152 (hp20 hA) rfl ?_
        rw [w3_eq]
        refine V_iret dX8_line_155 rfl (Nat.le_of_ble_eq_true rfl) (Nat.le_of_ble_eq_true rfl) ?_
        refine Or.inr ⟨j, _, _, hj, rfl, ?_, rfl, rfl⟩
        unfold lnR
        first
          | (rw [dogR_1 (by assumption), List.append_nil]; exact hq)
          | (rw [dogR_2 (by assumption) (by assumption)]; exact hq.put)
          | (rw [dogR_3 (by assumption) (by assumption) (by assumption)]; exact hq.put)
          | (rw [dogR_4 (by assumption) (by assumption) (by assumption)]; exact hq.put)
    have loop : ∀ (n i p : Nat) (ρ : Sg), i + n = (a5 + 2) / 3 → LnP (tS σ 0) ρ (lnB (σ.1 21 0) j ++ List.replicate i 35) p → V D s0 RX8 "line" cX8_line 4 ((some .int)) [] l (rmd 2 0 0) (Zm D s0 0 0 (lnRP A σ nh (nI j)) noX) 71 [(0, .ref (A 20 0 0)), (1, .int (nI j)), (2, .int (nI p)), (3, .int (nI i))] [] (HP A ρ) 0 0 := by
      intro n
      induction n with
      | zero =>
        intro i p ρ hi9 hq
        have hc : lnC (σ.1 21 0) j = i := by unfold lnC; rw [n5]; omega
        have hp9 := hq.1
        rw [List.length_append, List.length_replicate] at hp9
        refine V_iload_n (i := 3) dX8_line_71 rfl rfl ?_
        refine V_aload_n (i := 0) dX8_line_72 rfl rfl ?_
        refine V_iload_n (i := 1) dX8_line_73 rfl rfl ?_
        refine V_iconst (v := nI 5) dX8_line_74 (by decide) ?_
        refine Cv1_2 (d := 2) cv_X8_74 dX8_line_75 (t_X8_ofp (h := j) (f := 5) hA (by omega) (by decide)) (hp20 hA) rfl rfl (Nat.le_of_ble_eq_true rfl) ⟨Nat.le_refl _, Nat.le_refl _⟩ (by decide) ⟨Nat.le_of_ble_eq_true rfl, Nat.le_of_ble_eq_true rfl⟩ ?_
        rw [hr hq, e5]
        refine V_iconst (v := 2) dX8_line_78 (by decide) ?_
        refine V_iadd dX8_line_79 ?_
        refine V_iconst (v := 3) dX8_line_80 (by decide) ?_
        refine V_idiv dX8_line_81 (by decide) ?_
        refine V.eqst (st' := [.int (nI ((a5 + 2) / 3)), .int (nI i)]) (congrArg (fun z => [Value.int z, .int (nI i)]) eq3) ?_
        refine V_icmp_ge (tgt := 99) dX8_line_82 (by decide) (fun _ => ?_) (fun h82 => by first | exact absurd ((nI_le (by omega) (by omega))) h82 | exact absurd h82 ((nI_le (by omega) (by omega))))
        refine V.fin [0, 1, 2] rfl rfl (fin p ρ (by omega) (by rw [hc]; exact hq))
      | succ n ih =>
        intro i p ρ hi9 hq
        have hp9 := hq.1
        rw [List.length_append, List.length_replicate] at hp9
        refine V_iload_n (i := 3) dX8_line_71 rfl rfl ?_
        refine V_aload_n (i := 0) dX8_line_72 rfl rfl ?_
        refine V_iload_n (i := 1) dX8_line_73 rfl rfl ?_
        refine V_iconst (v := nI 5) dX8_line_74 (by decide) ?_
        refine Cv1_2 (d := 2) cv_X8_74 dX8_line_75 (t_X8_ofp (h := j) (f := 5) hA (by omega) (by decide)) (hp20 hA) rfl rfl (Nat.le_of_ble_eq_true rfl) ⟨Nat.le_refl _, Nat.le_refl _⟩ (by decide) ⟨Nat.le_of_ble_eq_true rfl, Nat.le_of_ble_eq_true rfl⟩ ?_
        rw [hr hq, e5]
        refine V_iconst (v := 2) dX8_line_78 (by decide) ?_
        refine V_iadd dX8_line_79 ?_
        refine V_iconst (v := 3) dX8_line_80 (by decide) ?_
        refine V_idiv dX8_line_81 (by decide) ?_
        refine V.eqst (st' := [.int (nI ((a5 + 2) / 3)), .int (nI i)]) (congrArg (fun z => [Value.int z, .int (nI i)]) eq3) ?_
        refine V_icmp_ge (tgt := 99) dX8_line_82 (by decide) (fun h82 => by first | exact absurd h82 ((nI_ge (by omega) (by omega))) | exact absurd ((nI_ge (by omega) (by omega))) h82) (fun _ => ?_)
        refine V_aload_n (i := 0) dX8_line_85 rfl rfl ?_
        refine V_iload_n (i := 2) dX8_line_86 rfl rfl ?_
        refine V_bipush (v := nI 35) dX8_line_87 (by decide) ?_
        refine Cv1_2 (d := 2) cv_X8_172 dX8_line_89 (t_X8_put hA (by omega)) (hp20 hA) rfl rfl (Nat.le_of_ble_eq_true rfl) ⟨Nat.le_refl _, Nat.le_refl _⟩ (by decide) ⟨Nat.le_of_ble_eq_true rfl, Nat.le_of_ble_eq_true rfl⟩ ?_
        refine V_istore_n (i := 2) dX8_line_92 rfl (by decide) ?_
        refine V_iinc (i := 3) dX8_line_93 rfl (inc1 _) (by decide) ?_
        refine V_goto (tgt := 71) dX8_line_96 (by decide) ?_
        refine V.fin [2, 3, 1, 0] rfl rfl (ih (i + 1) (p + 1) _ (by omega) ?_)
        rw [List.replicate_succ', ← List.append_assoc]
        exact hq.put
    have k1 : LnP (tS σ 0) (wN (tS σ 0) 0 j) ([] ++ dig j) (0 + dgN j) := LnP.z.num
    have k2 : LnP (tS σ 0) (w3 (wN (tS σ 0) 0 j) 26 0 (0 + dgN j) (nI 58)) (([] ++ dig j) ++ [58]) ((0 + dgN j) + 1) := k1.put
    have k3 : LnP (tS σ 0) (wN (w3 (wN (tS σ 0) 0 j) 26 0 (0 + dgN j) (nI 58)) ((0 + dgN j) + 1) a3) ((([] ++ dig j) ++ [58]) ++ dig a3) (((0 + dgN j) + 1) + dgN a3) := k2.num
    have k4 : LnP (tS σ 0) (w3 (wN (w3 (wN (tS σ 0) 0 j) 26 0 (0 + dgN j) (nI 58)) ((0 + dgN j) + 1) a3) 26 0 (((0 + dgN j) + 1) + dgN a3) (nI 47)) (((([] ++ dig j) ++ [58]) ++ dig a3) ++ [47]) ((((0 + dgN j) + 1) + dgN a3) + 1) := k3.put
    have k5 : LnP (tS σ 0) (wN (w3 (wN (w3 (wN (tS σ 0) 0 j) 26 0 (0 + dgN j) (nI 58)) ((0 + dgN j) + 1) a3) 26 0 (((0 + dgN j) + 1) + dgN a3) (nI 47)) ((((0 + dgN j) + 1) + dgN a3) + 1) a4) ((((([] ++ dig j) ++ [58]) ++ dig a3) ++ [47]) ++ dig a4) (((((0 + dgN j) + 1) + dgN a3) + 1) + dgN a4) := k4.num
    refine V_aload_n (i := 0) dX8_line_0 rfl rfl ?_
    refine V_aload_n (i := 0) dX8_line_1 rfl rfl ?_
    refine V_iload_n (i := 1) dX8_line_2 rfl rfl ?_
    refine Cv1_1 (d := 2) cv_X8_104 dX8_line_3 (t_X8_isHousep hA h1) (hp20 hA) rfl rfl (Nat.le_of_ble_eq_true rfl) ⟨Nat.le_refl _, Nat.le_refl _⟩ (by decide) ⟨Nat.le_of_ble_eq_true rfl, Nat.le_of_ble_eq_true rfl⟩ ?_
    refine V_if_eq (tgt := 13) dX8_line_6 (by decide) (fun h6 => by first | exact absurd h6 ((by rw [ho2]; decide)) | exact absurd ((by rw [ho2]; decide)) h6) (fun _ => ?_)
    refine V_iconst (v := 0) dX8_line_9 (by decide) ?_
    refine V_goto (tgt := 14) dX8_line_10 (by decide) ?_
    refine VP_20_6 fl_X8_38 dX8_line_14 hA ?_
    refine V_aload_n (i := 0) dX8_line_17 rfl rfl ?_
    refine V_getf fl_X8_38 dX8_line_18 (hp20 hA) rfl ?_
    refine V_if_eq (tgt := 26) dX8_line_21 (by decide) (fun _ => ?_) (fun h21 => by first | exact absurd ((by rw [w3_eq]; decide)) h21 | exact absurd h21 ((by rw [w3_eq]; decide)))
    refine V.eqG (G' := HP A (tS σ 0)) rfl ?_
    refine V_aload_n (i := 0) dX8_line_26 rfl rfl ?_
    refine V_aload_n (i := 0) dX8_line_27 rfl rfl ?_
    refine V_iconst (v := nI 0) dX8_line_28 (by decide) ?_
    refine V_iload_n (i := 1) dX8_line_29 rfl rfl ?_
    refine Cv1_2 (d := 2) cv_X8_175 dX8_line_30 (t_X8_writesNumber (p := 0) (v := j) hA (by omega) (by omega)) (hp20 hA) rfl rfl (Nat.le_of_ble_eq_true rfl) ⟨Nat.le_refl _, Nat.le_refl _⟩ (by decide) ⟨Nat.le_of_ble_eq_true rfl, Nat.le_of_ble_eq_true rfl⟩ ?_
    refine V_bipush (v := nI 58) dX8_line_33 (by decide) ?_
    refine Cv1_2 (d := 2) cv_X8_172 dX8_line_35 (t_X8_put (p := (0 + dgN j)) hA (by omega)) (hp20 hA) rfl rfl (Nat.le_of_ble_eq_true rfl) ⟨Nat.le_refl _, Nat.le_refl _⟩ (by decide) ⟨Nat.le_of_ble_eq_true rfl, Nat.le_of_ble_eq_true rfl⟩ ?_
    refine V_istore_n (i := 2) dX8_line_38 rfl (by decide) ?_
    refine V_aload_n (i := 0) dX8_line_39 rfl rfl ?_
    refine V_aload_n (i := 0) dX8_line_40 rfl rfl ?_
    refine V_iload_n (i := 2) dX8_line_41 rfl rfl ?_
    refine V_aload_n (i := 0) dX8_line_42 rfl rfl ?_
    refine V_iload_n (i := 1) dX8_line_43 rfl rfl ?_
    refine V_iconst (v := nI 3) dX8_line_44 (by decide) ?_
    refine Cv1_2 (d := 2) cv_X8_74 dX8_line_45 (t_X8_ofp (h := j) (f := 3) hA (by omega) (by decide)) (hp20 hA) rfl rfl (Nat.le_of_ble_eq_true rfl) ⟨Nat.le_refl _, Nat.le_refl _⟩ (by decide) ⟨Nat.le_of_ble_eq_true rfl, Nat.le_of_ble_eq_true rfl⟩ ?_
    rw [hr k2, e3]
    refine Cv1_2 (d := 2) cv_X8_175 dX8_line_48 (t_X8_writesNumber (p := ((0 + dgN j) + 1)) (v := a3) hA (by omega) (by omega)) (hp20 hA) rfl rfl (Nat.le_of_ble_eq_true rfl) ⟨Nat.le_refl _, Nat.le_refl _⟩ (by decide) ⟨Nat.le_of_ble_eq_true rfl, Nat.le_of_ble_eq_true rfl⟩ ?_
    refine V_bipush (v := nI 47) dX8_line_51 (by decide) ?_
    refine Cv1_2 (d := 2) cv_X8_172 dX8_line_53 (t_X8_put (p := (((0 + dgN j) + 1) + dgN a3)) hA (by omega)) (hp20 hA) rfl rfl (Nat.le_of_ble_eq_true rfl) ⟨Nat.le_refl _, Nat.le_refl _⟩ (by decide) ⟨Nat.le_of_ble_eq_true rfl, Nat.le_of_ble_eq_true rfl⟩ ?_
    refine V_istore_n (i := 2) dX8_line_56 rfl (by decide) ?_
    refine V_aload_n (i := 0) dX8_line_57 rfl rfl ?_
    refine V_iload_n (i := 2) dX8_line_58 rfl rfl ?_
    refine V_aload_n (i := 0) dX8_line_59 rfl rfl ?_
    refine V_iload_n (i := 1) dX8_line_60 rfl rfl ?_
    refine V_iconst (v := nI 4) dX8_line_61 (by decide) ?_
    refine Cv1_2 (d := 2) cv_X8_74 dX8_line_62 (t_X8_ofp (h := j) (f := 4) hA (by omega) (by decide)) (hp20 hA) rfl rfl (Nat.le_of_ble_eq_true rfl) ⟨Nat.le_refl _, Nat.le_refl _⟩ (by decide) ⟨Nat.le_of_ble_eq_true rfl, Nat.le_of_ble_eq_true rfl⟩ ?_
    rw [hr k4, e4]
    refine Cv1_2 (d := 2) cv_X8_175 dX8_line_65 (t_X8_writesNumber (p := ((((0 + dgN j) + 1) + dgN a3) + 1)) (v := a4) hA (by omega) (by omega)) (hp20 hA) rfl rfl (Nat.le_of_ble_eq_true rfl) ⟨Nat.le_refl _, Nat.le_refl _⟩ (by decide) ⟨Nat.le_of_ble_eq_true rfl, Nat.le_of_ble_eq_true rfl⟩ ?_
    refine V_istore_n (i := 2) dX8_line_68 rfl (by decide) ?_
    refine V_iconst (v := nI 0) dX8_line_69 (by decide) ?_
    refine V_istore_n (i := 3) dX8_line_70 rfl (by decide) ?_
    refine V.fin [2, 3, 1, 0] rfl rfl (loop ((a5 + 2) / 3) 0 (((((0 + dgN j) + 1) + dgN a3) + 1) + dgN a4) (wN (w3 (wN (w3 (wN (tS σ 0) 0 j) 26 0 (0 + dgN j) (nI 58)) ((0 + dgN j) + 1) a3) 26 0 (((0 + dgN j) + 1) + dgN a3) (nI 47)) ((((0 + dgN j) + 1) + dgN a3) + 1) a4) (by omega) ?_)
    unfold lnB
    rw [n3, n4, List.replicate_zero, List.append_nil]
    exact k5

theorem d128 : ∀ b, b < 128 → ((nI b).toUInt32 % 65536).toInt32 = nI b ∧ narrow .char (.int (nI b)) = .int (nI b) := by
  have h : (List.range 128).all (fun b => decide (((nI b).toUInt32 % 65536).toInt32 = nI b) && decide (narrow .char (.int (nI b)) = .int (nI b))) = true := by decide +kernel
  intro b hb
  have := List.all_eq_true.mp h b (List.mem_range.mpr hb)
  simpa using this

set_option maxHeartbeats 4000000 in
set_option maxRecDepth 100000 in
theorem t_X8_character {D : va_G} {s0 : State} {l : Launch} {B : Nat} {A : AT} {σ : Sg} (hA : AOK B A) {T : List Nat} (hT : T.length ≤ 34) (hl : σ.1 20 0 14 = nI T.length) (hc : ∀ i, i < T.length → T.getD i 0 < 128 ∧ σ.1 26 0 i = nI (T.getD i 0)) {x : Int32} : Tri D s0 l yX8_character cX8_character 2 ((some .char)) 2 0 0 [.ref (A 20 0 0), .int x] (HP A σ) (fun r G' => (ob x 0 (nI T.length - 1) = true ∧ r = some (.int 0) ∧ G' = HP A (tS σ 1)) ∨ ∃ k, k < T.length ∧ x = nI k ∧ r = some (.int (nI (T.getD k 0))) ∧ G' = HP A (tS σ 0)) noX := by
  refine Tri.ofV (own := RX8) (mn := "character") (by decide +kernel) rfl rfl (Nat.le_of_ble_eq_true rfl) ?_
  by_cases ho : ob x 0 (nI T.length - 1) = true
  · refine V_aload_n (i := 0) dX8_character_0 rfl rfl ?_
    refine V_iload_n (i := 1) dX8_character_1 rfl rfl ?_
    refine V_iconst (v := 0) dX8_character_2 (by decide) ?_
    refine V_aload_n (i := 0) dX8_character_3 rfl rfl ?_
    refine V_getf fl_X8_178 dX8_character_4 (hp20 hA) rfl ?_
    rw [hl]
    refine V_iconst (v := 1) dX8_character_7 (by decide) ?_
    refine V_isub dX8_character_8 ?_
    refine Cs1_3 (d := 2) cs_X8_66 dX8_character_9 (t_X8_isIn hA) (Nat.le_of_ble_eq_true rfl) ⟨Nat.le_refl _, Nat.le_refl _⟩ (by decide) ⟨Nat.le_of_ble_eq_true rfl, Nat.le_of_ble_eq_true rfl⟩ ?_
    refine V_if_eq (tgt := 19) dX8_character_12 (by decide) (fun _ => ?_) (fun h12 => by first | exact absurd ((by rw [ho]; rfl)) h12 | exact absurd h12 ((by rw [ho]; rfl)))
    refine V_iconst (v := 1) dX8_character_19 (by decide) ?_
    refine VP_20_6 fl_X8_38 dX8_character_20 hA ?_
    refine V_aload_n (i := 0) dX8_character_23 rfl rfl ?_
    refine V_getf fl_X8_38 dX8_character_24 (hp20 hA) rfl ?_
    refine V_if_ne (tgt := 40) dX8_character_27 (by decide) (fun _ => ?_) (fun h27 => by first | exact absurd ((by rw [w3_eq]; decide)) h27 | exact absurd h27 ((by rw [w3_eq]; decide)))
    refine V_iconst (v := 0) dX8_character_40 (by decide) ?_
    refine V_zret dX8_character_41 rfl rfl (Nat.le_of_ble_eq_true rfl) (Nat.le_of_ble_eq_true rfl) ?_
    exact Or.inl ⟨ho, rfl, rfl⟩
  · have ho2 : ob x 0 (nI T.length - 1) = false := Bool.eq_false_iff.mpr ho
    obtain ⟨k, hk, rfl⟩ := ob_ex (by omega) ho2
    obtain ⟨c1, c2⟩ := hc k hk
    have c3 : (w3 σ 20 0 6 0).1 26 0 k = nI (T.getD k 0) := (w3_ne (by omega)).trans c2
    refine V_aload_n (i := 0) dX8_character_0 rfl rfl ?_
    refine V_iload_n (i := 1) dX8_character_1 rfl rfl ?_
    refine V_iconst (v := 0) dX8_character_2 (by decide) ?_
    refine V_aload_n (i := 0) dX8_character_3 rfl rfl ?_
    refine V_getf fl_X8_178 dX8_character_4 (hp20 hA) rfl ?_
    rw [hl]
    refine V_iconst (v := 1) dX8_character_7 (by decide) ?_
    refine V_isub dX8_character_8 ?_
    refine Cs1_3 (d := 2) cs_X8_66 dX8_character_9 (t_X8_isIn hA) (Nat.le_of_ble_eq_true rfl) ⟨Nat.le_refl _, Nat.le_refl _⟩ (by decide) ⟨Nat.le_of_ble_eq_true rfl, Nat.le_of_ble_eq_true rfl⟩ ?_
    refine V_if_eq (tgt := 19) dX8_character_12 (by decide) (fun h12 => by first | exact absurd h12 ((by rw [ho2]; decide)) | exact absurd ((by rw [ho2]; decide)) h12) (fun _ => ?_)
    refine V_iconst (v := 0) dX8_character_15 (by decide) ?_
    refine V_goto (tgt := 20) dX8_character_16 (by decide) ?_
    refine VP_20_6 fl_X8_38 dX8_character_20 hA ?_
    refine V_aload_n (i := 0) dX8_character_23 rfl rfl ?_
    refine V_getf fl_X8_38 dX8_character_24 (hp20 hA) rfl ?_
    refine V_if_ne (tgt := 40) dX8_character_27 (by decide) (fun h27 => by first | exact absurd h27 ((by rw [w3_eq]; decide)) | exact absurd ((by rw [w3_eq]; decide)) h27) (fun _ => ?_)
    refine V_aload_n (i := 0) dX8_character_30 rfl rfl ?_
    refine V_getf fl_X8_29 dX8_character_31 (hp20 hA) rfl ?_
    refine V_iload_n (i := 1) dX8_character_34 rfl rfl ?_
    refine V_iald9 dX8_character_35 (hp26 hA) rfl (by omega) (by decide) (congrArg Value.int c3) ?_
    refine V_i2c dX8_character_36 (d128 _ c1).1 ?_
    refine V_goto (tgt := 41) dX8_character_37 (by decide) ?_
    refine V_zret dX8_character_41 rfl (d128 _ c1).2 (Nat.le_of_ble_eq_true rfl) (Nat.le_of_ble_eq_true rfl) ?_
    exact Or.inr ⟨k, hk, rfl, rfl, rfl⟩

