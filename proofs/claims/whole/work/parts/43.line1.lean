/-! the class: a house's line, its characters -/
/-- a house's line: the dog's character last -/
def dogT (b d : Int32) : List Nat := if ¬ b = 0 then [98] else if d = 1 then [122] else if d = 2 then [33] else []
def nN (x : Int32) : Nat := x.toNatClampNeg
def lnB (w : Nat → Int32) (h : Nat) : List Nat := ((((([] ++ dig h) ++ [58]) ++ dig (nN (w (hx h 3)))) ++ [47]) ++ dig (nN (w (hx h 4))))
def lnC (w : Nat → Int32) (h : Nat) : Nat := (nN (w (hx h 5)) + 2) / 3
def lnT (w : Nat → Int32) (h : Nat) : List Nat := (lnB w h ++ List.replicate (lnC w h) 35) ++ dogT (w (hx h 7)) (w (hx h 1))
theorem dogT_1 {b d : Int32} (h : ¬ b = 0) : dogT b d = [98] := if_pos h
theorem dogT_2 {b d : Int32} (h : b = 0) (h2 : d = 1) : dogT b d = [122] := by
  rw [dogT, if_neg (fun z => z h), if_pos h2]
theorem dogT_3 {b d : Int32} (h : b = 0) (h2 : d = 2) : dogT b d = [33] := by
  rw [dogT, if_neg (fun z => z h), h2]
  rfl
theorem dogT_4 {b d : Int32} (h : b = 0) (h1 : ¬ d = 1) (h2 : ¬ d = 2) : dogT b d = [] := by
  rw [dogT, if_neg (fun z => z h), if_neg h1, if_neg h2]
theorem dogT_len {b d : Int32} : (dogT b d).length ≤ 1 := by
  unfold dogT
  repeat' split
  all_goals simp
theorem lnB_len {w : Nat → Int32} {h : Nat} (hh : h < 8) : (lnB w h).length ≤ 7 := by
  have h1 := dgN_le (v := nN (w (hx h 3)))
  have h2 := dgN_le (v := nN (w (hx h 4)))
  have h3 : dgN h = 1 := by unfold dgN; rw [if_pos (by omega)]
  unfold lnB
  simp only [List.length_append, List.length_singleton, List.length_nil, dig_len]
  omega

set_option maxHeartbeats 4000000 in
set_option maxRecDepth 100000 in
theorem t_X3_writeDog {D : va_G} {s0 : State} {l : Launch} {B : Nat} {A : AT} {σ : Sg} (hA : AOK B A) {L : List Nat} (hS : SBok A σ L) (hl : L.length < 34) {j : Nat} (hj : j < 8) : Tri D s0 l yX3_writeDog cX3_writeDog 2 (none) 6 1 34 [.ref (A 9 0 j), .ref (A 16 0 0)] (HP A σ) (fun r G' => ∃ σ' : Sg, r = none ∧ G' = HP A σ' ∧ SBr σ σ' ∧ SBok A σ' (L ++ dogT (σ.1 5 0 (hx j 7)) (σ.1 5 0 (hx j 1)))) noX := by
  refine Tri.ofV (own := RX3) (mn := "writeDog") (by decide +kernel) rfl rfl (Nat.le_of_ble_eq_true rfl) ?_
  refine V_aload_n (i := 0) dX3_writeDog_0 rfl rfl ?_
  refine V_getf fl_X3_33 dX3_writeDog_1 (hp9 hA (by omega) (by omega)) rfl ?_
  refine V_if_eq (tgt := 17) dX3_writeDog_4 (by decide) (fun h4 => ?_) (fun h4 => ?_)
  · refine V_aload_n (i := 0) dX3_writeDog_17 rfl rfl ?_
    refine V_getf fl_X3_15 dX3_writeDog_18 (hp9 hA (by omega) (by omega)) rfl ?_
    refine V_iconst (v := 1) dX3_writeDog_21 (by decide) ?_
    refine V_icmp_ne (tgt := 35) dX3_writeDog_22 (by decide) (fun h22 => ?_) (fun h22 => ?_)
    · refine V_aload_n (i := 0) dX3_writeDog_35 rfl rfl ?_
      refine V_getf fl_X3_15 dX3_writeDog_36 (hp9 hA (by omega) (by omega)) rfl ?_
      refine V_iconst (v := 2) dX3_writeDog_39 (by decide) ?_
      refine V_icmp_ne (tgt := 50) dX3_writeDog_40 (by decide) (fun h40 => ?_) (fun h40 => ?_)
      · refine V_vret dX3_writeDog_50 rfl (Nat.le_of_ble_eq_true rfl) (Nat.le_of_ble_eq_true rfl) ?_
        first
          | (refine ⟨σ, rfl, rfl, SBr.rf, ?_⟩
             rw [dogT_4 (by assumption) (by assumption) (by assumption), List.append_nil]
             exact hS)
          | (refine ⟨σ', rfl, rfl, k1, ?_⟩
             first
               | (rw [dogT_1 (by assumption)]; exact k2)
               | (rw [dogT_2 (by assumption) (by assumption)]; exact k2)
               | (rw [dogT_3 (by assumption) (by assumption)]; exact k2))
      · refine V_aload_n (i := 1) dX3_writeDog_43 rfl rfl ?_
        refine V_bipush (v := nI 33) dX3_writeDog_44 (by decide) ?_
        refine V_call (d := 6) cv_X3_53 dX3_writeDog_46 (t_J4_append_cf468 hA hS (c := 33) (by decide) hl) (hp16 hA) rfl rfl rfl rfl (Nat.le_of_ble_eq_true rfl) ⟨Nat.le_refl _, Nat.le_refl _⟩ (by decide) ⟨Nat.le_of_ble_eq_true rfl, Nat.le_of_ble_eq_true rfl⟩ ?_ (fun _ _ h => h.elim)
        rintro r G' ⟨σ', rfl, rfl, k1, k2⟩
        refine V_pop dX3_writeDog_49 rfl ?_
        refine V_vret dX3_writeDog_50 rfl (Nat.le_of_ble_eq_true rfl) (Nat.le_of_ble_eq_true rfl) ?_
        first
          | (refine ⟨σ, rfl, rfl, SBr.rf, ?_⟩
             rw [dogT_4 (by assumption) (by assumption) (by assumption), List.append_nil]
             exact hS)
          | (refine ⟨σ', rfl, rfl, k1, ?_⟩
             first
               | (rw [dogT_1 (by assumption)]; exact k2)
               | (rw [dogT_2 (by assumption) (by assumption)]; exact k2)
               | (rw [dogT_3 (by assumption) (by assumption)]; exact k2))
    · refine V_aload_n (i := 1) dX3_writeDog_25 rfl rfl ?_
      refine V_bipush (v := nI 122) dX3_writeDog_26 (by decide) ?_
      refine V_call (d := 6) cv_X3_53 dX3_writeDog_28 (t_J4_append_cf468 hA hS (c := 122) (by decide) hl) (hp16 hA) rfl rfl rfl rfl (Nat.le_of_ble_eq_true rfl) ⟨Nat.le_refl _, Nat.le_refl _⟩ (by decide) ⟨Nat.le_of_ble_eq_true rfl, Nat.le_of_ble_eq_true rfl⟩ ?_ (fun _ _ h => h.elim)
      rintro r G' ⟨σ', rfl, rfl, k1, k2⟩
      refine V_pop dX3_writeDog_31 rfl ?_
      refine V_goto (tgt := 50) dX3_writeDog_32 (by decide) ?_
      refine V_vret dX3_writeDog_50 rfl (Nat.le_of_ble_eq_true rfl) (Nat.le_of_ble_eq_true rfl) ?_
      first
        | (refine ⟨σ, rfl, rfl, SBr.rf, ?_⟩
           rw [dogT_4 (by assumption) (by assumption) (by assumption), List.append_nil]
           exact hS)
        | (refine ⟨σ', rfl, rfl, k1, ?_⟩
           first
             | (rw [dogT_1 (by assumption)]; exact k2)
             | (rw [dogT_2 (by assumption) (by assumption)]; exact k2)
             | (rw [dogT_3 (by assumption) (by assumption)]; exact k2))
  · refine V_aload_n (i := 1) dX3_writeDog_7 rfl rfl ?_
    refine V_bipush (v := nI 98) dX3_writeDog_8 (by decide) ?_
    refine V_call (d := 6) cv_X3_53 dX3_writeDog_10 (t_J4_append_cf468 hA hS (c := 98) (by decide) hl) (hp16 hA) rfl rfl rfl rfl (Nat.le_of_ble_eq_true rfl) ⟨Nat.le_refl _, Nat.le_refl _⟩ (by decide) ⟨Nat.le_of_ble_eq_true rfl, Nat.le_of_ble_eq_true rfl⟩ ?_ (fun _ _ h => h.elim)
    rintro r G' ⟨σ', rfl, rfl, k1, k2⟩
    refine V_pop dX3_writeDog_13 rfl ?_
    refine V_goto (tgt := 50) dX3_writeDog_14 (by decide) ?_
    refine V_vret dX3_writeDog_50 rfl (Nat.le_of_ble_eq_true rfl) (Nat.le_of_ble_eq_true rfl) ?_
    first
      | (refine ⟨σ, rfl, rfl, SBr.rf, ?_⟩
         rw [dogT_4 (by assumption) (by assumption) (by assumption), List.append_nil]
         exact hS)
      | (refine ⟨σ', rfl, rfl, k1, ?_⟩
         first
           | (rw [dogT_1 (by assumption)]; exact k2)
           | (rw [dogT_2 (by assumption) (by assumption)]; exact k2)
           | (rw [dogT_3 (by assumption) (by assumption)]; exact k2))

set_option maxHeartbeats 4000000 in
set_option maxRecDepth 100000 in
theorem t_X7_line {D : va_G} {s0 : State} {l : Launch} {B : Nat} {A : AT} {σ : Sg} (hA : AOK B A) (hl : l.stackTraces = false) {L : List Nat} (hS : SBok A σ L) {m nh : Nat} (hW : Wok m (σ.1 5 0)) (h1 : σ.1 5 0 1 = nI nh) (hn : nh ≤ 8) {x : Int32} : Tri D s0 l yX7_line cX7_line 4 ((some .int)) 7 24 816 [.ref (A 0 0 0), .int x] (HP A σ) (fun r G' => ∃ (h : Nat) (σ' : Sg), h < nh ∧ x = nI h ∧ r = some (.int (nI (lnT (σ.1 5 0) h).length)) ∧ G' = HP A σ' ∧ SBr σ σ' ∧ SBok A σ' (lnT (σ.1 5 0) h)) (fun E G' => ob x 0 (nI nh - 1) = true ∧ E = "java/lang/IndexOutOfBoundsException" ∧ G' = HP A σ) := by
  refine Tri.ofV (own := RX7) (mn := "line") (by decide +kernel) rfl rfl (Nat.le_of_ble_eq_true rfl) ?_
  by_cases ho : ob x 0 (nI nh - 1) = true
  · refine V_aload_n (i := 0) dX7_line_0 rfl rfl ?_
    refine V_getf fl_X7_20 dX7_line_1 (hp0 hA) rfl ?_
    refine V_iload_n (i := 1) dX7_line_4 rfl rfl ?_
    refine Cv1_1 (d := 7) cv_X7_105 dX7_line_5 (t_X5_houseAt_n hA (by decide) h1 hn ho) (hp5 hA (by omega)) rfl rfl (Nat.le_of_ble_eq_true rfl) ⟨Nat.le_refl _, Nat.le_refl _⟩ (by decide) ⟨Nat.le_of_ble_eq_true rfl, Nat.le_of_ble_eq_true rfl⟩ ?_
    refine V_astore_nN (i := 2) dX7_line_8 rfl (by decide) ?_
    refine V_aload_nN (i := 2) dX7_line_9 rfl rfl ?_
    refine V_ifnonnullN dX7_line_10 ?_
    refine V_throwS th_109 sr_111 hl dX7_line_13 dX7_line_16 dX7_line_17 dX7_line_19 dX7_line_22 (Nat.le_of_ble_eq_true rfl) (Nat.le_of_ble_eq_true rfl) (Nat.le_of_ble_eq_true rfl) ?_
    exact ⟨ho, rfl, rfl⟩
  · obtain ⟨j, hj, rfl⟩ := ob_ex (by omega) (Bool.eq_false_iff.mpr ho)
    obtain ⟨a3, b3, e3⟩ := hW.1.h (i := j) (f := 3) (by omega) (by decide) rfl
    obtain ⟨a4, b4, e4⟩ := hW.1.h (i := j) (f := 4) (by omega) (by decide) rfl
    obtain ⟨a5, b5, e5⟩ := hW.1.h (i := j) (f := 5) (by omega) (by decide) rfl
    have n3 : nN (σ.1 5 0 (hx j 3)) = a3 := by rw [nN, e3, nI_clamp (by omega)]
    have n4 : nN (σ.1 5 0 (hx j 4)) = a4 := by rw [nN, e4, nI_clamp (by omega)]
    have n5 : nN (σ.1 5 0 (hx j 5)) = a5 := by rw [nN, e5, nI_clamp (by omega)]
    have hb7 := lnB_len (w := σ.1 5 0) (h := j) (by omega)
    have d3 := dgN_le (v := a3)
    have d4 := dgN_le (v := a4)
    have dj : dgN j = 1 := by unfold dgN; rw [if_pos (by omega)]
    have loop : ∀ (n i : Nat) (τ : Sg), i + n = (a5 + 2) / 3 → SBr σ τ → SBok A τ (lnB (σ.1 5 0) j ++ List.replicate i 35) → V D s0 RX7 "line" cX7_line 4 ((some .int)) [] l (rmd 7 24 816) (Zm D s0 24 816 (fun r G' => ∃ (h : Nat) (σ' : Sg), h < nh ∧ nI j = nI h ∧ r = some (.int (nI (lnT (σ.1 5 0) h).length)) ∧ G' = HP A σ' ∧ SBr σ σ' ∧ SBok A σ' (lnT (σ.1 5 0) h)) (fun E G' => ob (nI j) 0 (nI nh - 1) = true ∧ E = "java/lang/IndexOutOfBoundsException" ∧ G' = HP A σ)) 66 [(0, .ref (A 0 0 0)), (1, .int (nI j)), (2, .ref (A 9 0 j)), (3, .int (nI (3 * i)))] [] (HP A τ) (7 + i) (34 * (7 + i)) := by
      intro n
      induction n with
      | zero =>
        intro i τ hi9 hq hr
        have x5 := hq.1 5 (by decide)
        have hc : lnC (σ.1 5 0) j = i := by unfold lnC; rw [n5]; omega
        refine V.wid (k := 19) (n := 646) (by omega) (by omega) ?_
        refine V_iload_n (i := 3) dX7_line_66 rfl rfl ?_
        refine V_aload_n (i := 2) dX7_line_67 rfl rfl ?_
        refine V_getf fl_X7_261 dX7_line_68 (hp9 hA (by omega) (by omega)) rfl ?_
        rw [x5, e5]
        refine V_icmp_ge (tgt := 90) dX7_line_71 (by decide) (fun _ => ?_) (fun h71 => by first | exact absurd ((nI_le (by omega) (by omega))) h71 | exact absurd h71 ((nI_le (by omega) (by omega))))
        refine V_aload_n (i := 2) dX7_line_90 rfl rfl ?_
        refine V_aload_n (i := 0) dX7_line_91 rfl rfl ?_
        refine V_getf fl_X7_55 dX7_line_92 (hp0 hA) rfl ?_
        refine V_call (d := 7) cv_X7_264 dX7_line_95 (t_X3_writeDog hA hr (by rw [List.length_append, List.length_replicate]; omega) (by omega : j < 8)) (hp9 hA (by omega) (by omega)) rfl rfl rfl rfl (Nat.le_of_ble_eq_true rfl) ⟨Nat.le_refl _, Nat.le_refl _⟩ (by decide) ⟨Nat.le_of_ble_eq_true rfl, Nat.le_of_ble_eq_true rfl⟩ ?_ (fun _ _ h => h.elim)
        rintro r G' ⟨ρ, rfl, rfl, hq2, hr2⟩
        have hr3 : SBok A ρ (lnT (σ.1 5 0) j) := by
          rw [x5] at hr2
          unfold lnT
          rw [hc]
          exact hr2
        refine V_aload_n (i := 0) dX7_line_98 rfl rfl ?_
        refine V_getf fl_X7_55 dX7_line_99 (hp0 hA) rfl ?_
        refine Cv1_0 (d := 7) cv_X7_268 dX7_line_102 (t_J4_length_8abf5 hA hr3) (hp16 hA) rfl rfl (Nat.le_of_ble_eq_true rfl) ⟨Nat.le_refl _, Nat.le_refl _⟩ (by decide) ⟨Nat.le_of_ble_eq_true rfl, Nat.le_of_ble_eq_true rfl⟩ ?_
        refine V_iret dX7_line_105 rfl (Nat.le_of_ble_eq_true rfl) (Nat.le_of_ble_eq_true rfl) ?_
        exact ⟨j, ρ, hj, rfl, rfl, rfl, hq.tr hq2, hr3⟩
      | succ n ih =>
        intro i τ hi9 hq hr
        have x5 := hq.1 5 (by decide)
        refine V_iload_n (i := 3) dX7_line_66 rfl rfl ?_
        refine V_aload_n (i := 2) dX7_line_67 rfl rfl ?_
        refine V_getf fl_X7_261 dX7_line_68 (hp9 hA (by omega) (by omega)) rfl ?_
        rw [x5, e5]
        refine V_icmp_ge (tgt := 90) dX7_line_71 (by decide) (fun h71 => by first | exact absurd h71 ((nI_ge (by omega) (by omega))) | exact absurd ((nI_ge (by omega) (by omega))) h71) (fun _ => ?_)
        refine V_aload_n (i := 0) dX7_line_74 rfl rfl ?_
        refine V_getf fl_X7_55 dX7_line_75 (hp0 hA) rfl ?_
        refine V_bipush (v := nI 35) dX7_line_78 (by decide) ?_
        refine V_call (d := 7) cv_X7_252 dX7_line_80 (t_J4_append_cf468 hA hr (c := 35) (by decide) (by rw [List.length_append, List.length_replicate]; omega)) (hp16 hA) rfl rfl rfl rfl (Nat.le_of_ble_eq_true rfl) ⟨Nat.le_refl _, Nat.le_refl _⟩ (by decide) ⟨by show 7 + i + 1 ≤ 24; omega, by show 34 * (7 + i) + 34 ≤ 816; omega⟩ ?_ (fun _ _ h => h.elim)
        rintro r G' ⟨ρ, rfl, rfl, hq2, hr2⟩
        refine V_pop dX7_line_83 rfl ?_
        refine V_iinc (i := 3) dX7_line_84 rfl (by rw [show Int32.ofInt 3 = nI 3 from rfl, nI_add]) (by decide) ?_
        refine V_goto (tgt := 66) dX7_line_87 (by decide) ?_
        refine V.fin [1, 2, 3, 0] (by rw [show 3 * i + 3 = 3 * (i + 1) by omega]; rfl) rfl (V.wid (k := 7 + (i + 1)) (n := 34 * (7 + (i + 1))) (by omega) (by omega) (ih (i + 1) ρ (by omega) (hq.tr hq2) ?_))
        rw [List.replicate_succ', ← List.append_assoc]
        exact hr2
    refine V_aload_n (i := 0) dX7_line_0 rfl rfl ?_
    refine V_getf fl_X7_20 dX7_line_1 (hp0 hA) rfl ?_
    refine V_iload_n (i := 1) dX7_line_4 rfl rfl ?_
    refine Cv1_1 (d := 7) cv_X7_105 dX7_line_5 (t_X5_houseAt_s hA (by decide) h1 hn hj) (hp5 hA (by omega)) rfl rfl (Nat.le_of_ble_eq_true rfl) ⟨Nat.le_refl _, Nat.le_refl _⟩ (by decide) ⟨Nat.le_of_ble_eq_true rfl, Nat.le_of_ble_eq_true rfl⟩ ?_
    refine V_astore_n (i := 2) dX7_line_8 rfl (by decide) ?_
    refine V_aload_n (i := 2) dX7_line_9 rfl rfl ?_
    refine V_ifnonnull (tgt := 23) dX7_line_10 (by decide) ?_
    refine V_aload_n (i := 0) dX7_line_23 rfl rfl ?_
    refine V_getf fl_X7_55 dX7_line_24 (hp0 hA) rfl ?_
    refine V_iconst (v := 0) dX7_line_27 (by decide) ?_
    refine V_call (d := 7) cv_X7_244 dX7_line_28 (t_J4_setLength_d00df hA hS) (hp16 hA) rfl rfl rfl rfl (Nat.le_of_ble_eq_true rfl) ⟨Nat.le_refl _, Nat.le_refl _⟩ (by decide) ⟨Nat.le_of_ble_eq_true rfl, Nat.le_of_ble_eq_true rfl⟩ ?_ (fun _ _ h => h.elim)
    rintro r G' ⟨s1, rfl, rfl, q1, r1⟩
    refine V_aload_n (i := 0) dX7_line_31 rfl rfl ?_
    refine V_getf fl_X7_55 dX7_line_32 (hp0 hA) rfl ?_
    refine V_iload_n (i := 1) dX7_line_35 rfl rfl ?_
    refine V_call (d := 7) cv_X7_248 dX7_line_36 (t_J4_append_bf812 hA r1 (by omega) (by simp only [List.length_append, List.length_singleton, List.length_nil, dig_len]; omega)) (hp16 hA) rfl rfl rfl rfl (Nat.le_of_ble_eq_true rfl) ⟨Nat.le_refl _, Nat.le_refl _⟩ (by decide) ⟨Nat.le_of_ble_eq_true rfl, Nat.le_of_ble_eq_true rfl⟩ ?_ (fun _ _ h => h.elim)
    rintro r G' ⟨s2, rfl, rfl, q2, r2⟩
    refine V_bipush (v := nI 58) dX7_line_39 (by decide) ?_
    refine V_call (d := 7) cv_X7_252 dX7_line_41 (t_J4_append_cf468 hA r2 (c := 58) (by decide) (by simp only [List.length_append, List.length_singleton, List.length_nil, dig_len]; omega)) (hp16 hA) rfl rfl rfl rfl (Nat.le_of_ble_eq_true rfl) ⟨Nat.le_refl _, Nat.le_refl _⟩ (by decide) ⟨Nat.le_of_ble_eq_true rfl, Nat.le_of_ble_eq_true rfl⟩ ?_ (fun _ _ h => h.elim)
    rintro r G' ⟨s3, rfl, rfl, q3, r3⟩
    have x3 := ((q1.tr q2).tr q3).1 5 (by decide)
    refine V_aload_n (i := 2) dX7_line_44 rfl rfl ?_
    refine V_getf fl_X7_255 dX7_line_45 (hp9 hA (by omega) (by omega)) rfl ?_
    rw [x3, e3]
    refine V_call (d := 7) cv_X7_248 dX7_line_48 (t_J4_append_bf812 hA r3 (v := a3) (by omega) (by simp only [List.length_append, List.length_singleton, List.length_nil, dig_len]; omega)) (hp16 hA) rfl rfl rfl rfl (Nat.le_of_ble_eq_true rfl) ⟨Nat.le_refl _, Nat.le_refl _⟩ (by decide) ⟨Nat.le_of_ble_eq_true rfl, Nat.le_of_ble_eq_true rfl⟩ ?_ (fun _ _ h => h.elim)
    rintro r G' ⟨s4, rfl, rfl, q4, r4⟩
    refine V_bipush (v := nI 47) dX7_line_51 (by decide) ?_
    refine V_call (d := 7) cv_X7_252 dX7_line_53 (t_J4_append_cf468 hA r4 (c := 47) (by decide) (by simp only [List.length_append, List.length_singleton, List.length_nil, dig_len]; omega)) (hp16 hA) rfl rfl rfl rfl (Nat.le_of_ble_eq_true rfl) ⟨Nat.le_refl _, Nat.le_refl _⟩ (by decide) ⟨Nat.le_of_ble_eq_true rfl, Nat.le_of_ble_eq_true rfl⟩ ?_ (fun _ _ h => h.elim)
    rintro r G' ⟨s5, rfl, rfl, q5, r5⟩
    have x5 := ((((q1.tr q2).tr q3).tr q4).tr q5).1 5 (by decide)
    refine V_aload_n (i := 2) dX7_line_56 rfl rfl ?_
    refine V_getf fl_X7_258 dX7_line_57 (hp9 hA (by omega) (by omega)) rfl ?_
    rw [x5, e4]
    refine V_call (d := 7) cv_X7_248 dX7_line_60 (t_J4_append_bf812 hA r5 (v := a4) (by omega) (by simp only [List.length_append, List.length_singleton, List.length_nil, dig_len]; omega)) (hp16 hA) rfl rfl rfl rfl (Nat.le_of_ble_eq_true rfl) ⟨Nat.le_refl _, Nat.le_refl _⟩ (by decide) ⟨Nat.le_of_ble_eq_true rfl, Nat.le_of_ble_eq_true rfl⟩ ?_ (fun _ _ h => h.elim)
    rintro r G' ⟨s6, rfl, rfl, q6, r6⟩
    refine V_pop dX7_line_63 rfl ?_
    refine V_iconst (v := nI (3 * 0)) dX7_line_64 (by decide) ?_
    refine V_istore_n (i := 3) dX7_line_65 rfl (by decide) ?_
    refine V.fin [2, 3, 1, 0] rfl rfl (V.wid (k := 7 + 0) (n := 34 * (7 + 0)) (by decide) (by decide) (loop ((a5 + 2) / 3) 0 s6 (by omega) (((((q1.tr q2).tr q3).tr q4).tr q5).tr q6) ?_))
    unfold lnB
    rw [n3, n4, List.replicate_zero, List.append_nil]
    exact r6

theorem ob_lo {x : Int32} {n : Nat} (h : x < 0) : ob x 0 (nI n - 1) = true := by
  simp [ob, h]
theorem ob_hi {x : Int32} {n : Nat} (hn : n < 1000) (h0 : ¬ x < 0) (h : ¬ x < nI n) : ob x 0 (nI n - 1) = true := by
  obtain ⟨k, hk, rfl⟩ := nI_of h0
  rw [nI_ltI (by omega) (by omega)] at h
  have : nI n - 1 < nI k := by
    rw [Int32.lt_iff_toInt_lt, show (1 : Int32) = nI 1 from rfl, pk_sub_toInt (by omega) (by omega), nI_toInt hk]
    omega
  simp [ob, this]

set_option maxHeartbeats 4000000 in
set_option maxRecDepth 100000 in
theorem t_X7_character {D : va_G} {s0 : State} {l : Launch} {B : Nat} {A : AT} {σ : Sg} (hA : AOK B A) (hl : l.stackTraces = false) {L : List Nat} (hS : SBok A σ L) {x : Int32} : Tri D s0 l yX7_character cX7_character 2 ((some .char)) 7 1 6 [.ref (A 0 0 0), .int x] (HP A σ) (fun r G' => ∃ k, k < L.length ∧ x = nI k ∧ r = some (.int (nI (L.getD k 0))) ∧ G' = HP A σ) (fun E G' => ob x 0 (nI L.length - 1) = true ∧ E = "java/lang/IndexOutOfBoundsException" ∧ G' = HP A σ) := by
  have hl34 : L.length ≤ 34 := by have := hS.2.2.2.1; rcases hS.2.1 with h | h <;> omega
  refine Tri.ofV (own := RX7) (mn := "character") (by decide +kernel) rfl rfl (Nat.le_of_ble_eq_true rfl) ?_
  refine V_iload_n (i := 1) dX7_character_0 rfl rfl ?_
  refine V_if_lt (tgt := 15) dX7_character_1 (by decide) (fun h1 => ?_) (fun h1 => ?_)
  · have hoo := ob_lo (n := L.length) h1
    refine V_throwSW th_109 sr_270 hl dX7_character_15 dX7_character_18 dX7_character_19 dX7_character_22 dX7_character_25 (Nat.le_of_ble_eq_true rfl) (Nat.le_of_ble_eq_true rfl) (Nat.le_of_ble_eq_true rfl) ?_
    exact ⟨hoo, rfl, rfl⟩
  · refine V_iload_n (i := 1) dX7_character_4 rfl rfl ?_
    refine V_aload_n (i := 0) dX7_character_5 rfl rfl ?_
    refine V_getf fl_X7_55 dX7_character_6 (hp0 hA) rfl ?_
    refine Cv1_0 (d := 7) cv_X7_268 dX7_character_9 (t_J4_length_8abf5 hA hS) (hp16 hA) rfl rfl (Nat.le_of_ble_eq_true rfl) ⟨Nat.le_refl _, Nat.le_refl _⟩ (by decide) ⟨Nat.le_of_ble_eq_true rfl, Nat.le_of_ble_eq_true rfl⟩ ?_
    refine V_icmp_lt (tgt := 26) dX7_character_12 (by decide) (fun h12 => ?_) (fun h12 => ?_)
    · obtain ⟨k, hk9, rfl⟩ := nI_of h1
      rw [nI_ltI (by omega) (by omega)] at h12
      obtain ⟨b, hb, eb⟩ := hS.2.2.2.2.1 k
      have ek := hS.2.2.2.2.2 k h12
      refine V_aload_n (i := 0) dX7_character_26 rfl rfl ?_
      refine V_getf fl_X7_55 dX7_character_27 (hp0 hA) rfl ?_
      refine V_iload_n (i := 1) dX7_character_30 rfl rfl ?_
      refine Cv1_1 (d := 7) cv_X7_272 dX7_character_31 (t_J4_charAt_5068e hA hS h12) (hp16 hA) rfl rfl (Nat.le_of_ble_eq_true rfl) ⟨Nat.le_refl _, Nat.le_refl _⟩ (by decide) ⟨Nat.le_of_ble_eq_true rfl, Nat.le_of_ble_eq_true rfl⟩ ?_
      refine V_zret dX7_character_34 rfl (by rw [← ek, eb]; exact (c128 b hb).2) (Nat.le_of_ble_eq_true rfl) (Nat.le_of_ble_eq_true rfl) ?_
      exact ⟨k, h12, rfl, rfl, rfl⟩
    · have hoo := ob_hi (n := L.length) (by omega) h1 h12
      refine V_throwSW th_109 sr_270 hl dX7_character_15 dX7_character_18 dX7_character_19 dX7_character_22 dX7_character_25 (Nat.le_of_ble_eq_true rfl) (Nat.le_of_ble_eq_true rfl) (Nat.le_of_ble_eq_true rfl) ?_
      exact ⟨hoo, rfl, rfl⟩

