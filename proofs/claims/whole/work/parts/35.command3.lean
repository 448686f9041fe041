/-! commands: the reference -/
theorem pGo_len {t : Nat → Int32} {n : Nat} : ∀ (f p : Nat), (pGo t n f p).1.length ≤ f
  | 0, _ => Nat.le_refl _
  | f + 1, p => by
    have := pGo_len (t := t) (n := n) f ((pCmd t n p).2.1 + 1)
    unfold pGo
    repeat' split
    all_goals simp
    exact this
theorem R_cmd_b {u : Nat → Int32} {P : Int32 × Int32} {nh nc pl q : Nat} {a b b' : Int32} (h : q = 2 ∨ q = 5 → b = b') : R_cmd u P nh nc pl q a b = R_cmd u P nh nc pl q a b' := by
  by_cases z : q = 2 ∨ q = 5
  · rw [h z]
  · rcases q with _ | _ | _ | _ | _ | _ | _ | q
    · exact (rfl : R_drive u P a = R_drive u P a)
    · exact (rfl : R_load u P a = R_load u P a)
    · exact absurd (Or.inl rfl) z
    · exact (rfl : R_bone u P pl = R_bone u P pl)
    · exact (rfl : R_mop u P nc pl a = R_mop u P nc pl a)
    · exact absurd (Or.inr rfl) z
    · exact (rfl : R_shoe u P a = R_shoe u P a)
    · exact (rfl : R_days u P nh nc a = R_days u P nh nc a)
theorem hi_ne {h f j : Nat} (hh : h < 8) (hf : f < 9) (hj : 102 ≤ j) : ¬ j = hx h f := by
  unfold hx
  omega
theorem ki_ne {c f j : Nat} (hc : c < 4) (hf : f < 4) (hj : 102 ≤ j) : ¬ j = kx c f := by
  unfold kx
  omega
theorem S_dayh_t {w : Nat → Int32} {nw : Bool} {j : Nat} (h : 102 ≤ j) : ∀ i, i ≤ 8 → S_dayh w nw i j = w j := fun i hi => S_dayh_hi (by omega) i hi
theorem S_dayc_t {w : Nat → Int32} {j : Nat} (h : 102 ≤ j) : ∀ i, i ≤ 4 → S_dayc w i j = w j
  | 0, _ => rfl
  | i + 1, hi => by
    unfold S_dayc S_cday
    try dsimp only
    rw [up_ne (ki_ne (by omega) (by decide) h), up_ne (ki_ne (by omega) (by decide) h), S_dayc_t h i (by omega)]
theorem S_dys_t {w : Nat → Int32} {nh nc j : Nat} (hn : nh ≤ 8) (hc : nc ≤ 4) (h : 102 ≤ j) : ∀ i, S_dys w nh nc i j = w j
  | 0 => rfl
  | i + 1 => by
    unfold S_dys S_day
    rw [S_dayc_t h nc hc, S_dayh_t h nh hn, up_ne (by omega), S_dys_t hn hc h i]
theorem S_upw_t {w : Nat → Int32} {p : Int32} {j : Nat} (h : 102 ≤ j) : ∀ i, i ≤ 4 → S_upw w p i j = w j
  | 0, _ => rfl
  | i + 1, hi => by
    unfold S_upw
    rw [up_ne (by omega), S_upw_t h i (by omega)]
/-- behind its numbers a row of the reference stays as it is -/
theorem R_sack_t {w : Nat → Int32} {c h j : Nat} (hc : c < 4) (hh : h < 8) (hj : 102 ≤ j) : R_sack w c h j = w j := by
  rw [R_sack_S hc hh, up_ne (by omega), S_sack_e hh, up_ne (hi_ne hh (by decide) hj), up_ne (hi_ne hh (by decide) hj), up_ne (hi_ne hh (by decide) hj), up_ne (hi_ne hh (by decide) hj), up_ne (hi_ne hh (by decide) hj), up_ne (ki_ne hc (by decide) hj), up_ne (ki_ne hc (by decide) hj), up_ne (ki_ne hc (by decide) hj)]
theorem R_sks_t {w : Nat → Int32} {c h j : Nat} (hc : c < 4) (hh : h < 8) (hj : 102 ≤ j) : ∀ i, R_sks w c h i j = w j
  | 0 => rfl
  | i + 1 => by rw [R_sks, R_sack_t hc hh hj, R_sks_t hc hh hj i]
theorem hn_0 {P : Int32 × Int32} {c : Bool} {a b : Int32} (ha : ¬ a = 0) (h : (hn P c a b).1 = 0) : P.1 = 0 ∧ c = false := by
  unfold hn at h
  split at h
  · exact absurd h ha
  · rename_i z
    refine ⟨h, ?_⟩
    cases c
    · rfl
    · exact absurd ⟨rfl, h⟩ z
theorem R_cmd_t {u : Nat → Int32} {b x n : Int32} {nh nc pl q j : Nat} (hn8 : nh ≤ 8) (hc4 : nc ≤ 4) (hp : pl ≤ 8) (hj : 102 ≤ j) : (R_cmd u (0, b) nh nc pl q x n).2.2 j = u j := by
  rcases q with _ | _ | _ | _ | _ | _ | _ | q
  · show (R_drive u (0, b) x).2.2 j = u j
    unfold R_drive S_drive_w S_up
    split
    · dsimp only
      rw [up_ne (by omega), up_ne (by omega), S_upw_t hj 4 (by decide)]
    · rfl
  · show (R_load u (0, b) x).2.2 j = u j
    unfold R_load S_load_w
    split
    · dsimp only
      rw [up_ne (by omega), up_ne (by omega)]
    · rfl
  · show (R_carry u (0, b) nc pl x n).2.2 j = u j
    unfold R_carry
    split
    · rename_i h1
      split
      · obtain ⟨q1, q2⟩ := hn_0 (by decide) h1
        obtain ⟨q3, _⟩ := hn_0 (by decide) q1
        obtain ⟨_, q5⟩ := hn_0 (by decide) q3
        obtain ⟨c, hc, rfl⟩ := ob_ex (n := nc) (by omega) q5
        rw [nI_clamp (by omega : c < 2 ^ 31)]
        exact R_sks_t (by omega) (by omega) hj _
      · rfl
    · rfl
  · show (R_bone u (0, b) pl).2.2 j = u j
    unfold R_bone S_bone_w
    split
    · dsimp only
      rw [up_ne (by omega), up_ne (hi_ne (by omega) (by decide) hj)]
    · rfl
  · show (R_mop u (0, b) nc pl x).2.2 j = u j
    unfold R_mop R_mop_w
    split
    · rename_i h1
      obtain ⟨q1, q2⟩ := hn_0 (by decide) h1
      obtain ⟨_, q5⟩ := hn_0 (by decide) q1
      obtain ⟨c, hc, rfl⟩ := ob_ex (n := nc) (by omega) q5
      dsimp only
      rw [nI_clamp (by omega : c < 2 ^ 31), up_ne (ki_ne (by omega) (by decide) hj), up_ne (hi_ne (by omega) (by decide) hj)]
    · rfl
  · show (R_pay u (0, b) nh x n).2.2 j = u j
    unfold R_pay S_pay_w
    split
    · rename_i h1
      obtain ⟨q1, q2⟩ := hn_0 (by decide) h1
      obtain ⟨_, q5⟩ := hn_0 (by decide) q1
      obtain ⟨i, hi, rfl⟩ := ob_ex (n := nh) (by omega) q5
      dsimp only
      rw [nI_clamp (by omega : i < 2 ^ 31), up_ne (by omega), up_ne (by omega), up_ne (hi_ne (by omega) (by decide) hj)]
    · rfl
  · show (R_shoe u (0, b) x).2.2 j = u j
    unfold R_shoe R_shoe_w
    split
    · rename_i h1
      obtain ⟨q1, _⟩ := hn_0 (by decide) h1
      obtain ⟨q1, _⟩ := hn_0 (by decide) q1
      obtain ⟨q1, _⟩ := hn_0 (by decide) q1
      obtain ⟨_, q5⟩ := hn_0 (by decide) q1
      obtain ⟨i, hi, rfl⟩ := ob_ex (n := 4) (by omega) q5
      dsimp only
      rw [nI_clamp (by omega : i < 2 ^ 31), up_ne (by omega), up_ne (by omega)]
    · rfl
  · show (R_days u (0, b) nh nc x).2.2 j = u j
    unfold R_days
    split
    · show R_dys u nh nc _ j = u j
      rw [R_dys_S hn8]
      exact S_dys_t hn8 hc4 hj _
    · rfl
/-- the text is gone, and read -/
def crA (σ : Sg) (n : Nat) : Sg := w3 (w3 σ 20 0 17 (nI n)) 20 0 11 0
def crB (τ : Sg) (wr th : Int32) : Sg := w3 (w3 τ 20 0 12 wr) 20 0 6 th
def RCM (A : AT) (σ : Sg) (cn nh nc n : Nat) (PA : List CL × Option Nat) (r : Option Value) (G' : GH) : Prop := ∃ τ : Sg, TR (crA σ n) τ ∧
  ((∃ q, PA.2 = some q ∧ r = some (.int 0) ∧ G' = HP A (crB τ (nI q) 1)) ∨
   (PA.2 = none ∧ (gS nh nc PA.1 0 (σ.1 21 0)).1.1 = 0 ∧ r = some (.int (nI PA.1.length)) ∧ G' = HP A (remS (w3 (rs (beg (crB τ (-1) 0)) (0, σ.1 20 0 16) (gS nh nc PA.1 0 (σ.1 21 0)).2.2) 20 0 6 0) cn ((beg (crB τ (-1) 0)).1 22 0))) ∨
   (PA.2 = none ∧ ¬ (gS nh nc PA.1 0 (σ.1 21 0)).1.1 = 0 ∧ r = some (.int 0) ∧ ∃ u : Nat → Int32, (∀ j, 102 ≤ j → u j = 0) ∧ G' = HP A (refS (rs (beg (crB τ (-1) 0)) (gS nh nc PA.1 0 (σ.1 21 0)).1 u) (nI (gS nh nc PA.1 0 (σ.1 21 0)).2.1) 2)))
theorem endS_y {ρ : Sg} {b : Int32} {u : Nat → Int32} {cn : Nat} {pl ex : Int32} : endS (rs ρ (0, b) u) cn pl ex = remS (w3 (rs ρ (0, b) u) 20 0 6 0) cn (ρ.1 22 0) := by
  rw [endS, if_pos rs_15, rs_a (by decide) (by decide)]
theorem endS_no {ρ : Sg} {P : Int32 × Int32} {u : Nat → Int32} {cn : Nat} {pl ex : Int32} (h : ¬ P.1 = 0) : endS (rs ρ P u) cn pl ex = refS (rs ρ P u) pl ex := by
  rw [endS, if_neg (fun z => h (rs_15.symm.trans z))]
theorem crB_a {τ : Sg} {wr th : Int32} {a : Nat} (h : ¬ a = 20) : (crB τ wr th).1 a = τ.1 a := funext fun b => funext fun c => (w3_ne (fun q => h q.1)).trans (w3_ne (fun q => h q.1))
theorem crA_a {σ : Sg} {n a : Nat} (h : ¬ a = 20) : (crA σ n).1 a = σ.1 a := funext fun b => funext fun c => (w3_ne (fun q => h q.1)).trans (w3_ne (fun q => h q.1))

theorem pGo_q9 {t : Nat → Int32} {n : Nat} (hn : n ≤ 60) : ∀ (f p : Nat), p < 100 → ∀ q, (pGo t n f p).2 = some q → q < 1000
  | 0, p => fun hp q h => by
    cases h
    omega
  | f + 1, p => fun hp q => by
    have h1 := pCmd_lt t n p hn hp
    unfold pGo
    split
    · intro h
      cases h
      omega
    · split
      · intro h
        cases h
      · split
        · rename_i hm
          intro h
          refine pGo_q9 hn f _ ?_ q h
          simp only [pMark, Bool.and_eq_true, decide_eq_true_eq] at hm
          omega
        · intro h
          cases h
          omega

set_option maxHeartbeats 4000000 in
set_option maxRecDepth 100000 in
theorem t_X8_commands {D : va_G} {s0 : State} {l : Launch} {B : Nat} {A : AT} {σ : Sg} (hA : AOK B A) {cn : Nat} (hcn : σ.1 20 0 5 = nI cn) (hc8 : cn ≤ 8) {nh : Nat} (h1 : σ.1 21 0 1 = nI nh) (hn8 : nh ≤ 8) {nc : Nat} (h2 : σ.1 21 0 2 = nI nc) (hm : nc ≤ 4) {m : Nat} (hm1 : m ≤ 1000) (hW : Wok m (σ.1 21 0)) {n : Nat} (ht : σ.1 20 0 11 = nI n) (hn60 : n ≤ 60) : Tri D s0 l yX8_commands cX8_commands 4 ((some .int)) 8 0 0 [.ref (A 20 0 0)] (HP A σ) (RCM A σ cn nh nc n (pGo (σ.1 25 0) n 30 0)) noX := by
  refine Tri.ofV (own := RX8) (mn := "commands") (by decide +kernel) rfl rfl (Nat.le_of_ble_eq_true rfl) ?_
  generalize hPA : pGo (σ.1 25 0) n 30 0 = PA
  have hlen : PA.1.length ≤ 30 := by rw [← hPA]; exact pGo_len 30 0
  refine V_aload_n (i := 0) dX8_commands_0 rfl rfl ?_
  refine V_aload_n (i := 0) dX8_commands_1 rfl rfl ?_
  refine V_getf fl_X8_181 dX8_commands_2 (hp20 hA) rfl ?_
  refine VP_20_17 fl_X8_187 dX8_commands_5 hA ?_
  refine V_aload_n (i := 0) dX8_commands_8 rfl rfl ?_
  refine V_iconst (v := 0) dX8_commands_9 (by decide) ?_
  refine VP_20_11 fl_X8_181 dX8_commands_10 hA ?_
  refine V_aload_n (i := 0) dX8_commands_13 rfl rfl ?_
  refine V.eqG (congrArg (HP A) (show w3 (w3 σ 20 0 17 (σ.1 20 0 11)) 20 0 11 0 = (crA σ n) from by rw [ht]; rfl)) ?_
  refine V_call (d := 8) cv_X8_220 dX8_commands_14 (t_X8_readsAll (σ := (crA σ n)) hA (t := σ.1 25 0) (congrFun (crA_a (by decide)) 0) ((w3_ne (by omega)).trans (w3_eq _ _ _ _ _)) hn60) (hp20 hA) rfl rfl rfl rfl (Nat.le_of_ble_eq_true rfl) ⟨Nat.le_refl _, Nat.le_refl _⟩ (by decide) ⟨Nat.le_of_ble_eq_true rfl, Nat.le_of_ble_eq_true rfl⟩ ?_ (fun _ _ h => h.elim)
  rintro r G' ⟨τ, rfl, rfl, hT, hF, hY⟩
  rw [hPA] at hF hY
  cases hP : PA.2 with
  | some q =>
    have hq := hF q hP
    have hq9 : q < 1000 := by
      rw [← hPA] at hP
      exact pGo_q9 hn60 30 0 (by omega) q hP
    refine V_aload_n (i := 0) dX8_commands_17 rfl rfl ?_
    refine V_aload_n (i := 0) dX8_commands_18 rfl rfl ?_
    refine V_getf fl_X8_190 dX8_commands_19 (hp20 hA) rfl ?_
    refine VP_20_12 fl_X8_25 dX8_commands_22 hA ?_
    refine V_aload_n (i := 0) dX8_commands_25 rfl rfl ?_
    refine V_aload_n (i := 0) dX8_commands_26 rfl rfl ?_
    refine V_getf fl_X8_190 dX8_commands_27 (hp20 hA) rfl ?_
    refine V_iconst (v := (-1)) dX8_commands_30 (by decide) ?_
    refine V_icmp_eq (tgt := 38) dX8_commands_31 (by decide) (fun h31 => by first | exact absurd h31 ((fun z => m1_ne hq9 (((w3_ne (by omega)).trans hq).symm.trans z))) | exact absurd ((fun z => m1_ne hq9 (((w3_ne (by omega)).trans hq).symm.trans z))) h31) (fun _ => ?_)
    refine V_iconst (v := 1) dX8_commands_34 (by decide) ?_
    refine V_goto (tgt := 39) dX8_commands_35 (by decide) ?_
    refine VP_20_6 fl_X8_38 dX8_commands_39 hA ?_
    refine V.eqG (congrArg (HP A) (show w3 (w3 τ 20 0 12 (τ.1 20 0 19)) 20 0 6 1 = crB τ (nI q) 1 from by rw [hq]; rfl)) ?_
    refine V_aload_n (i := 0) dX8_commands_42 rfl rfl ?_
    refine V_getf fl_X8_38 dX8_commands_43 (hp20 hA) rfl ?_
    refine V_if_eq (tgt := 51) dX8_commands_46 (by decide) (fun h46 => by first | exact absurd h46 ((by rw [crB, w3_eq]; decide)) | exact absurd ((by rw [crB, w3_eq]; decide)) h46) (fun _ => ?_)
    refine V_iconst (v := 0) dX8_commands_49 (by decide) ?_
    refine V_iret dX8_commands_50 rfl (Nat.le_of_ble_eq_true rfl) (Nat.le_of_ble_eq_true rfl) ?_
    exact ⟨τ, hT, Or.inl ⟨q, hP, rfl, rfl⟩⟩
  | none =>
    obtain ⟨y1, y2, y3, y4⟩ := hY hP
    have b21 : (crB τ (-1) 0).1 21 0 = σ.1 21 0 := (congrFun (crB_a (by decide)) 0).trans ((congrFun (hT.1 21 (by decide) (by decide) (by decide)) 0).trans (congrFun (crA_a (by decide)) 0))
    have b16 : (crB τ (-1) 0).1 20 0 16 = σ.1 20 0 16 := ((w3_ne (by omega)).trans (w3_ne (by omega))).trans ((hT.2.1 16 (by decide)).trans ((w3_ne (by omega)).trans (w3_ne (by omega))))
    have r5 : (beg (crB τ (-1) 0)).1 20 0 5 = nI cn := (beg_f (by decide)).trans (((w3_ne (by omega)).trans (w3_ne (by omega))).trans ((hT.2.1 5 (by decide)).trans (((w3_ne (by omega)).trans (w3_ne (by omega))).trans hcn)))
    have r20 : ∀ P u, (rs (beg (crB τ (-1) 0)) P u).1 20 0 20 = nI PA.1.length := fun P u => ((congrFun rs_20 20).trans ((w3_ne (by omega)).trans (w3_ne (by omega)))).trans ((beg_f (by decide)).trans (((w3_ne (by omega)).trans (w3_ne (by omega))).trans y2))
    have r27 : ∀ P u, (rs (beg (crB τ (-1) 0)) P u).1 27 = τ.1 27 := fun P u => (rs_a (by decide) (by decide)).trans ((beg_a (by decide) (by decide)).trans (crB_a (by decide)))
    have r28 : ∀ P u, (rs (beg (crB τ (-1) 0)) P u).1 28 = τ.1 28 := fun P u => (rs_a (by decide) (by decide)).trans ((beg_a (by decide) (by decide)).trans (crB_a (by decide)))
    have endy : ∀ (i : Nat) (w : Nat → Int32) (p9 : Int32), (gS nh nc PA.1 0 (σ.1 21 0)) = ((0, 0), i, w) → V D s0 RX8 "commands" cX8_commands 4 ((some .int)) [] l (rmd 8 0 0) (Zm D s0 0 0 (RCM A σ cn nh nc n PA) noX) 111 [(0, .ref (A 20 0 0)), (1, .int p9)] [] (HP A (rs (beg (crB τ (-1) 0)) (0, σ.1 20 0 16) w)) 0 0 := by
      intro i w p9 hg
      refine V_aload_n (i := 0) dX8_commands_111 rfl rfl ?_
      refine V_aload_n (i := 0) dX8_commands_112 rfl rfl ?_
      refine V_getf fl_X8_210 dX8_commands_113 (hp20 hA) rfl ?_
      refine V_iload_n (i := 1) dX8_commands_116 rfl rfl ?_
      refine V_iconst (v := 2) dX8_commands_117 (by decide) ?_
      refine Cv1_3 (d := 8) cv_X8_100 dX8_commands_118 ((t_X8_ends hA ((rs_f (by decide)).trans r5) hc8)) (hp20 hA) rfl rfl (Nat.le_of_ble_eq_true rfl) ⟨Nat.le_refl _, Nat.le_refl _⟩ (by decide) ⟨Nat.le_of_ble_eq_true rfl, Nat.le_of_ble_eq_true rfl⟩ ?_
      refine V_iret dX8_commands_121 rfl (Nat.le_of_ble_eq_true rfl) (Nat.le_of_ble_eq_true rfl) ?_
      refine ⟨τ, hT, Or.inr (Or.inl ⟨hP, by rw [hg], ?_, ?_⟩)⟩
      · rw [if_pos rs_15, r20]
      · rw [hg]
        exact congrArg (HP A) endS_y
    have endn : ∀ (i : Nat) (P : Int32 × Int32) (u w : Nat → Int32), ¬ P.1 = 0 → (∀ j, 102 ≤ j → u j = 0) → (gS nh nc PA.1 0 (σ.1 21 0)) = (P, i, w) → V D s0 RX8 "commands" cX8_commands 4 ((some .int)) [] l (rmd 8 0 0) (Zm D s0 0 0 (RCM A σ cn nh nc n PA) noX) 111 [(0, .ref (A 20 0 0)), (1, .int (nI i))] [] (HP A (rs (beg (crB τ (-1) 0)) P u)) 0 0 := by
      intro i P u w hS hu hg
      refine V_aload_n (i := 0) dX8_commands_111 rfl rfl ?_
      refine V_aload_n (i := 0) dX8_commands_112 rfl rfl ?_
      refine V_getf fl_X8_210 dX8_commands_113 (hp20 hA) rfl ?_
      refine V_iload_n (i := 1) dX8_commands_116 rfl rfl ?_
      refine V_iconst (v := 2) dX8_commands_117 (by decide) ?_
      refine Cv1_3 (d := 8) cv_X8_100 dX8_commands_118 ((t_X8_ends hA ((rs_f (by decide)).trans r5) hc8)) (hp20 hA) rfl rfl (Nat.le_of_ble_eq_true rfl) ⟨Nat.le_refl _, Nat.le_refl _⟩ (by decide) ⟨Nat.le_of_ble_eq_true rfl, Nat.le_of_ble_eq_true rfl⟩ ?_
      refine V_iret dX8_commands_121 rfl (Nat.le_of_ble_eq_true rfl) (Nat.le_of_ble_eq_true rfl) ?_
      refine ⟨τ, hT, Or.inr (Or.inr ⟨hP, by rw [hg]; exact hS, ?_, u, hu, ?_⟩)⟩
      · rw [if_neg (fun z => hS (rs_15.symm.trans z))]
      · rw [hg]
        exact congrArg (HP A) (endS_no hS)
    have loop : ∀ (n9 i : Nat) (w : Nat → Int32) (p9 : Int32), i + n9 = PA.1.length → Wok m w → w 1 = nI nh → w 2 = nI nc → (gS nh nc PA.1 0 (σ.1 21 0)) = gS nh nc (PA.1.drop i) i w → V D s0 RX8 "commands" cX8_commands 4 ((some .int)) [] l (rmd 8 0 0) (Zm D s0 0 0 (RCM A σ cn nh nc n PA) noX) 59 [(0, .ref (A 20 0 0)), (1, .int p9), (2, .int (nI i))] [] (HP A (rs (beg (crB τ (-1) 0)) (0, σ.1 20 0 16) w)) 0 0 := by
      intro n9
      induction n9 with
      | zero =>
        intro i w p9 hi9 hW e1 e2 hg
        have hg2 : (gS nh nc PA.1 0 (σ.1 21 0)) = ((0, 0), i, w) := by
          rw [hg, List.drop_eq_nil_of_le (by omega)]
          rfl
        refine V_iload_n (i := 2) dX8_commands_59 rfl rfl ?_
        refine V_aload_n (i := 0) dX8_commands_60 rfl rfl ?_
        refine V_getf fl_X8_210 dX8_commands_61 (hp20 hA) rfl ?_
        refine V_icmp_ge (tgt := 111) dX8_commands_64 (by decide) (fun _ => ?_) (fun h64 => by first | exact absurd ((by rw [r20]; exact nI_le (by omega) (by omega))) h64 | exact absurd h64 ((by rw [r20]; exact nI_le (by omega) (by omega))))
        refine V.fin [0, 1] rfl rfl (endy i w p9 hg2)
      | succ n9 ih =>
        intro i w p9 hi9 hW e1 e2 hg
        have hi8 : i < PA.1.length := by omega
        obtain ⟨k1, k0, k2, k3⟩ := y3 i hi8
        rw [drop_c hi8] at hg
        generalize PA.1.getD i (0, 0, 0) = c at hg k0 k1 k2 k3
        have hWk := hW
        obtain ⟨hWb, nh9, nc9, pl, f1, f2, f3, f4, f5, f6⟩ := hW
        obtain rfl : nh9 = nh := (nI_eq (by omega) (by omega)).mp (f1.symm.trans e1)
        have hpw : pW w = pl := kK f5 (by omega)
        rw [gS, hpw] at hg
        have hC := C_cmd (q := c.1) (x := c.2.1) (n := c.2.2) hm1 hWb e1 f2 e2 hm f5 f6
        have hR := RS_cmd (q := c.1) (x := c.2.1) (n := c.2.2) (b := σ.1 20 0 16) (nc := nc) hWk hm1 e1 f2 hm f5 (by omega)
        have q1 : (rs (beg (crB τ (-1) 0)) (0, σ.1 20 0 16) w).1 27 0 i = nI c.1 := by rw [r27]; exact k1
        have q2 : (rs (beg (crB τ (-1) 0)) (0, σ.1 20 0 16) w).1 28 0 (2 * i) = c.2.1 := by rw [r28]; exact k2
        have q3 : R_cmd w (0, σ.1 20 0 16) nh9 nc pl c.1 c.2.1 ((rs (beg (crB τ (-1) 0)) (0, σ.1 20 0 16) w).1 28 0 (2 * i + 1)) = R_cmd w (0, σ.1 20 0 16) nh9 nc pl c.1 c.2.1 c.2.2 := R_cmd_b (fun z => by rw [r28]; exact k3 z)
        have ld : i < 30 := by omega
        refine V_iload_n (i := 2) dX8_commands_59 rfl rfl ?_
        refine V_aload_n (i := 0) dX8_commands_60 rfl rfl ?_
        refine V_getf fl_X8_210 dX8_commands_61 (hp20 hA) rfl ?_
        refine V_icmp_ge (tgt := 111) dX8_commands_64 (by decide) (fun h64 => by first | exact absurd h64 ((by rw [r20]; exact nI_ge (by omega) (by omega))) | exact absurd ((by rw [r20]; exact nI_ge (by omega) (by omega))) h64) (fun _ => ?_)
        refine V_aload_n (i := 0) dX8_commands_67 rfl rfl ?_
        refine V_getf fl_X8_41 dX8_commands_68 (hp20 hA) rfl ?_
        refine V_if_ne (tgt := 111) dX8_commands_71 (by decide) (fun h71 => by first | exact absurd h71 (rs_15) | exact absurd (rs_15) h71) (fun _ => ?_)
        refine V_iload_n (i := 2) dX8_commands_74 rfl rfl ?_
        refine V_istore_n (i := 1) dX8_commands_75 rfl (by decide) ?_
        refine V_aload_n (i := 0) dX8_commands_76 rfl rfl ?_
        refine V_aload_n (i := 0) dX8_commands_77 rfl rfl ?_
        refine V_getf fl_X8_32 dX8_commands_78 (hp20 hA) rfl ?_
        refine V_iload_n (i := 2) dX8_commands_81 rfl rfl ?_
        refine V_iald9 dX8_commands_82 (hp27 hA) rfl (by omega) (by decide) (congrArg Value.int q1) ?_
        refine V_aload_n (i := 0) dX8_commands_83 rfl rfl ?_
        refine V_getf fl_X8_35 dX8_commands_84 (hp20 hA) rfl ?_
        refine V_iconst (v := nI 2) dX8_commands_87 (by decide) ?_
        refine V_iload_n (i := 2) dX8_commands_88 rfl rfl ?_
        refine V_imul dX8_commands_89 ?_
        refine V_iald9 dX8_commands_90 (hp28 hA) (pk_mul 2 i) (by omega) (by decide) (congrArg Value.int q2) ?_
        refine V_aload_n (i := 0) dX8_commands_91 rfl rfl ?_
        refine V_getf fl_X8_35 dX8_commands_92 (hp20 hA) rfl ?_
        refine V_iconst (v := nI 2) dX8_commands_95 (by decide) ?_
        refine V_iload_n (i := 2) dX8_commands_96 rfl rfl ?_
        refine V_imul dX8_commands_97 ?_
        refine V_iconst (v := nI 1) dX8_commands_98 (by decide) ?_
        refine V_iadd dX8_commands_99 ?_
        refine V_iald9 dX8_commands_100 (hp28 hA) (by rw [pk_mul, nI_add]) (by omega) (by decide) rfl ?_
        have hcon := @t_X8_does D s0 l B A (beg (crB τ (-1) 0)) hA (0, σ.1 20 0 16) w nh9 e1 f2 nc e2 hm pl f5 (by omega) (fun c hc => (hWk.tir (c := c) (i := 0) (by omega) (by decide)).1) (fun h hh => hWk.dog hh) (fun h hh => hWk.bon hh) c.1 k0 c.2.1 ((rs (beg (crB τ (-1) 0)) (0, σ.1 20 0 16) w).1 28 0 (2 * i + 1))
        refine Cv1_3 (d := 8) cv_X8_223 dX8_commands_101 (d' := 4) (mc' := 0) (ms' := 0) hcon (hp20 hA) rfl rfl (Nat.le_of_ble_eq_true rfl) ⟨Nat.le_refl _, Nat.le_refl _⟩ (by decide) ⟨Nat.le_of_ble_eq_true rfl, Nat.le_of_ble_eq_true rfl⟩ ?_
        rw [q3]
        by_cases hS : (S_cmd w nh9 nc pl c.1 c.2.1 c.2.2).1.1 = 0
        · rw [if_pos hS] at hg
          rw [hR.1 hS]
          refine V_istore_n (i := 3) dX8_commands_104 rfl (by decide) ?_
          refine V_iinc (i := 2) dX8_commands_105 rfl (inc1 _) (by decide) ?_
          refine V_goto (tgt := 59) dX8_commands_108 (by decide) ?_
          refine V.fin [3, 2, 0] rfl rfl (ih (i + 1) (S_cmd w nh9 nc pl c.1 c.2.1 c.2.2).2.2 (nI i) (by omega) (hC hS).1 ((S_cmd_12 hm f2 (by omega) (Or.inl rfl)).trans e1) ((S_cmd_12 hm f2 (by omega) (Or.inr rfl)).trans e2) hg)
        · rw [if_neg hS] at hg
          have hu : ∀ j, 102 ≤ j → (R_cmd w (0, σ.1 20 0 16) nh9 nc pl c.1 c.2.1 c.2.2).2.2 j = 0 := fun j hj => (R_cmd_t f2 hm (by omega) hj).trans (hWb.z hj)
          rw [hR.2 hS]
          by_cases hl9 : i + 1 = PA.1.length
          · refine V_istore_n (i := 3) dX8_commands_104 rfl (by decide) ?_
            refine V_iinc (i := 2) dX8_commands_105 rfl (inc1 _) (by decide) ?_
            refine V_goto (tgt := 59) dX8_commands_108 (by decide) ?_
            refine V_iload_n (i := 2) dX8_commands_59 rfl rfl ?_
            refine V_aload_n (i := 0) dX8_commands_60 rfl rfl ?_
            refine V_getf fl_X8_210 dX8_commands_61 (hp20 hA) rfl ?_
            refine V_icmp_ge (tgt := 111) dX8_commands_64 (by decide) (fun _ => ?_) (fun h64 => by first | exact absurd ((by rw [r20]; exact nI_le (by omega) (by omega))) h64 | exact absurd h64 ((by rw [r20]; exact nI_le (by omega) (by omega))))
            refine V.fin [3, 2] rfl rfl (endn i (S_cmd w nh9 nc pl c.1 c.2.1 c.2.2).1 _ w hS hu hg)
          · refine V_istore_n (i := 3) dX8_commands_104 rfl (by decide) ?_
            refine V_iinc (i := 2) dX8_commands_105 rfl (inc1 _) (by decide) ?_
            refine V_goto (tgt := 59) dX8_commands_108 (by decide) ?_
            refine V_iload_n (i := 2) dX8_commands_59 rfl rfl ?_
            refine V_aload_n (i := 0) dX8_commands_60 rfl rfl ?_
            refine V_getf fl_X8_210 dX8_commands_61 (hp20 hA) rfl ?_
            refine V_icmp_ge (tgt := 111) dX8_commands_64 (by decide) (fun h64 => by first | exact absurd h64 ((by rw [r20]; exact nI_ge (by omega) (by omega))) | exact absurd ((by rw [r20]; exact nI_ge (by omega) (by omega))) h64) (fun _ => ?_)
            refine V_aload_n (i := 0) dX8_commands_67 rfl rfl ?_
            refine V_getf fl_X8_41 dX8_commands_68 (hp20 hA) rfl ?_
            refine V_if_ne (tgt := 111) dX8_commands_71 (by decide) (fun _ => ?_) (fun h71 => by first | exact absurd ((fun z => hS (rs_15.symm.trans z))) h71 | exact absurd h71 ((fun z => hS (rs_15.symm.trans z))))
            refine V.fin [3, 2] rfl rfl (endn i (S_cmd w nh9 nc pl c.1 c.2.1 c.2.2).1 _ w hS hu hg)
    refine V_aload_n (i := 0) dX8_commands_17 rfl rfl ?_
    refine V_aload_n (i := 0) dX8_commands_18 rfl rfl ?_
    refine V_getf fl_X8_190 dX8_commands_19 (hp20 hA) rfl ?_
    refine VP_20_12 fl_X8_25 dX8_commands_22 hA ?_
    refine V_aload_n (i := 0) dX8_commands_25 rfl rfl ?_
    refine V_aload_n (i := 0) dX8_commands_26 rfl rfl ?_
    refine V_getf fl_X8_190 dX8_commands_27 (hp20 hA) rfl ?_
    refine V_iconst (v := (-1)) dX8_commands_30 (by decide) ?_
    refine V_icmp_eq (tgt := 38) dX8_commands_31 (by decide) (fun _ => ?_) (fun h31 => by first | exact absurd (((w3_ne (by omega)).trans y1)) h31 | exact absurd h31 (((w3_ne (by omega)).trans y1)))
    refine V_iconst (v := 0) dX8_commands_38 (by decide) ?_
    refine VP_20_6 fl_X8_38 dX8_commands_39 hA ?_
    refine V.eqG (congrArg (HP A) (show w3 (w3 τ 20 0 12 (τ.1 20 0 19)) 20 0 6 0 = crB τ (-1) 0 from by rw [y1]; rfl)) ?_
    refine V_aload_n (i := 0) dX8_commands_42 rfl rfl ?_
    refine V_getf fl_X8_38 dX8_commands_43 (hp20 hA) rfl ?_
    refine V_if_eq (tgt := 51) dX8_commands_46 (by decide) (fun _ => ?_) (fun h46 => by first | exact absurd ((by rw [crB, w3_eq])) h46 | exact absurd h46 ((by rw [crB, w3_eq])))
    refine V_aload_n (i := 0) dX8_commands_51 rfl rfl ?_
    refine Cv0_0 (d := 8) cv_X8_89 dX8_commands_52 (t_X8_begins hA) (hp20 hA) rfl rfl (Nat.le_of_ble_eq_true rfl) ⟨Nat.le_refl _, Nat.le_refl _⟩ (by decide) ⟨Nat.le_of_ble_eq_true rfl, Nat.le_of_ble_eq_true rfl⟩ ?_
    refine V_iconst (v := 0) dX8_commands_55 (by decide) ?_
    refine V_istore_n (i := 1) dX8_commands_56 rfl (by decide) ?_
    refine V_iconst (v := nI 0) dX8_commands_57 (by decide) ?_
    refine V_istore_n (i := 2) dX8_commands_58 rfl (by decide) ?_
    refine V.fin [2, 1, 0] rfl (congrArg (HP A) (beg_rs.trans (by rw [b21, b16]))) (loop PA.1.length 0 (σ.1 21 0) 0 (by omega) hW h1 h2 rfl)

