/-! the class: a text is read -/
abbrev CL : Type := Nat × Int32 × Int32
def TxS (σ σ' : Sg) : Prop := (∀ a, ¬ a = 11 → ¬ a = 13 → ¬ a = 14 → ¬ a = 15 → σ'.1 a = σ.1 a) ∧ σ'.2 = σ.2 ∧ σ'.1 11 0 0 = σ.1 11 0 0
theorem TxS.rf {σ : Sg} : TxS σ σ := ⟨fun _ _ _ _ _ => rfl, rfl, rfl⟩
theorem TxS.tr {σ τ ρ : Sg} (h : TxS σ τ) (k : TxS τ ρ) : TxS σ ρ := ⟨fun a h1 h2 h3 h4 => (k.1 a h1 h2 h3 h4).trans (h.1 a h1 h2 h3 h4), k.2.1.trans h.2.1, k.2.2.trans h.2.2⟩
theorem TxS.w {σ : Sg} {a c : Nat} {x : Int32} (h : ((a == 11 && c != 0) || (a == 13 || (a == 14 || a == 15))) = true) : TxS σ (w3 σ a 0 c x) := by
  simp only [Bool.or_eq_true, Bool.and_eq_true, beq_iff_eq, bne_iff_ne, ne_eq] at h
  refine ⟨fun a' h1 h2 h3 h4 => funext fun b' => funext fun c' => w3_ne (fun q => ?_), rfl, w3_ne (fun q => ?_)⟩
  · omega
  · omega
theorem nr_TX {σ : Sg} {p : Nat} {v : Int32} : TxS σ (nrS σ p v) := TxS.tr (TxS.w rfl) (TxS.w rfl)
theorem cm_TX {σ : Sg} {p c k : Nat} {a b : Int32} : TxS σ (cmS σ p c k a b) := TxS.tr nr_TX (TxS.tr (TxS.w rfl) (TxS.tr (TxS.w rfl) (TxS.tr (TxS.w rfl) (TxS.w rfl))))
theorem cm_cnt {σ : Sg} {p c k : Nat} {a b : Int32} : (cmS σ p c k a b).1 11 0 1 = nI (c + 1) := w3_eq _ _ _ _ _
theorem cm_pos {σ : Sg} {p c k : Nat} {a b : Int32} : (cmS σ p c k a b).1 11 0 2 = nI p := (w3_ne (by omega)).trans ((w3_ne (by omega)).trans ((w3_ne (by omega)).trans ((w3_ne (by omega)).trans nr_2)))
def HLc (σ : Sg) (L : List CL) : Prop := ∀ i, i < L.length → σ.1 13 0 i = nI (L.getD i (0, 0, 0)).1 ∧ σ.1 14 0 i = (L.getD i (0, 0, 0)).2.1 ∧ σ.1 15 0 i = (L.getD i (0, 0, 0)).2.2
theorem HLc.eq {σ τ : Sg} {L : List CL} (h : HLc σ L) (h1 : τ.1 13 = σ.1 13) (h2 : τ.1 14 = σ.1 14) (h3 : τ.1 15 = σ.1 15) : HLc τ L := fun i hi => by
  rw [h1, h2, h3]
  exact h i hi
theorem cm_13 {σ : Sg} {p c k i : Nat} {a b : Int32} : (cmS σ p c k a b).1 13 0 i = if i = c then nI k else σ.1 13 0 i := by
  unfold cmS
  rw [w3_ne (by omega), w3_ne (by omega), w3_ne (by omega)]
  by_cases h : i = c
  · rw [if_pos h, h, w3_eq]
  · rw [if_neg h, w3_ne (by omega), nr_a (by decide)]
theorem cm_14 {σ : Sg} {p c k i : Nat} {a b : Int32} : (cmS σ p c k a b).1 14 0 i = if i = c then a else σ.1 14 0 i := by
  unfold cmS
  rw [w3_ne (by omega), w3_ne (by omega)]
  by_cases h : i = c
  · rw [if_pos h, h, w3_eq]
  · rw [if_neg h, w3_ne (by omega), w3_ne (by omega), nr_a (by decide)]
theorem cm_15 {σ : Sg} {p c k i : Nat} {a b : Int32} : (cmS σ p c k a b).1 15 0 i = if i = c then b else σ.1 15 0 i := by
  unfold cmS
  rw [w3_ne (by omega)]
  by_cases h : i = c
  · rw [if_pos h, h, w3_eq]
  · rw [if_neg h, w3_ne (by omega), w3_ne (by omega), w3_ne (by omega), nr_a (by decide)]
theorem cm_HL {σ : Sg} {p c : Nat} {x : CL} {L : List CL} (h : HLc σ L) (hl : L.length = c) : HLc (cmS σ p c x.1 x.2.1 x.2.2) (L ++ [x]) := by
  intro i hi
  rw [cm_13, cm_14, cm_15]
  rw [List.length_append, List.length_singleton] at hi
  by_cases hc : i = c
  · rw [if_pos hc, if_pos hc, if_pos hc]
    have e : (L ++ [x]).getD i (0, 0, 0) = x := by
      rw [hc, ← hl, List.getD_eq_getElem?_getD, List.getElem?_append_right (Nat.le_refl _), Nat.sub_self]
      rfl
    rw [e]
    exact ⟨rfl, rfl, rfl⟩
  · rw [if_neg hc, if_neg hc, if_neg hc]
    have e : (L ++ [x]).getD i (0, 0, 0) = L.getD i (0, 0, 0) := by
      rw [List.getD_eq_getElem?_getD, List.getElem?_append_left (by omega), ← List.getD_eq_getElem?_getD]
    rw [e]
    exact h i (by omega)
def RPost (A : AT) (σ : Sg) (PA : List CL × Option Nat) (r : Option Value) (G' : GH) : Prop := ∃ σ' : Sg, r = some (.int (bi (decide (PA.2 = none)))) ∧ G' = HP A σ' ∧ TxS σ σ' ∧ (∀ q, PA.2 = some q → σ'.1 11 0 2 = nI q) ∧ (PA.2 = none → σ'.1 11 0 1 = nI PA.1.length ∧ HLc σ' PA.1 ∧ PA.1.length ≤ 30)
theorem rp_no {A : AT} {σ σ' : Sg} {PA : List CL × Option Nat} {q : Nat} (e : PA.2 = some q) (h : TxS σ σ') (hq : σ'.1 11 0 2 = nI q) : RPost A σ PA (some (.int 0)) (HP A σ') := by
  refine ⟨σ', by rw [e]; rfl, rfl, h, fun z hz => ?_, fun hz => ?_⟩
  · rw [e] at hz
    cases hz
    exact hq
  · rw [e] at hz
    cases hz
theorem rp_yes {A : AT} {σ σ' : Sg} {PA : List CL × Option Nat} (e : PA.2 = none) (h : TxS σ σ') (h1 : σ'.1 11 0 1 = nI PA.1.length) (h2 : HLc σ' PA.1) (h3 : PA.1.length ≤ 30) : RPost A σ PA (some (.int 1)) (HP A σ') := by
  refine ⟨σ', by rw [e]; rfl, rfl, h, fun z hz => ?_, fun _ => ⟨h1, h2, h3⟩⟩
  rw [e] at hz
  cases hz

theorem pCmd_lt (t : Nat → Int32) (n p : Nat) (hn : n ≤ 60) (hp : p < 100) : (pCmd t n p).2.1 < 200 := by
  have h1 := pNum_le (t := t) (n := n) (fdN (pK t n p)) (p + 1) 0
  have h2 := pNum_le (t := t) (n := n) (sdN (pK t n p)) ((pNum t n (fdN (pK t n p)) (p + 1) 0).1 + 1) 0
  unfold pCmd
  repeat' split
  all_goals (dsimp only; omega)

set_option maxHeartbeats 4000000 in
set_option maxRecDepth 100000 in
theorem t_X1_isRead {D : va_G} {s0 : State} {l : Launch} {B : Nat} {A : AT} {σ : Sg} (hA : AOK B A) {n : Nat} (hn : σ.1 11 0 0 = nI n) (hn6 : n ≤ 60) (hch : ∀ j, j < n → ∃ ch, ch < 65536 ∧ σ.1 12 0 j = nI ch) : Tri D s0 l yX1_isRead cX1_isRead 2 ((some .boolean)) 6 0 0 [.ref (A 11 0 0)] (HP A σ) (RPost A σ (pGo (σ.1 12 0) n 30 0)) noX := by
  refine Tri.ofV (own := RX1) (mn := "isRead") (by decide +kernel) rfl rfl (Nat.le_of_ble_eq_true rfl) ?_
  generalize hPA : (pGo (σ.1 12 0) n 30 0) = PA
  have loop : ∀ (f i p : Nat) (v : Int32) (L0 : List CL) (τ : Sg), i + f = 30 → p < 100 → TxS σ τ → τ.1 11 0 1 = nI i → L0.length = i → HLc τ L0 → PA.1 = L0 ++ (pGo (σ.1 12 0) n f p).1 → PA.2 = (pGo (σ.1 12 0) n f p).2 → V D s0 RX1 "isRead" cX1_isRead 2 ((some .boolean)) [] l (rmd 6 0 0) (Zm D s0 0 0 (RPost A σ PA) noX) 12 [(0, .ref (A 11 0 0)), (1, .int (nI i))] [] (HP A (nrS τ p v)) 0 0 := by
    intro f
    induction f with
    | zero =>
      intro i p v L0 τ hi9 hp hT hc hl hL e1 e2
      obtain rfl : i = 30 := by omega
      refine V_iload_n (i := 1) dX1_isRead_12 rfl rfl ?_
      refine V_bipush (v := nI 30) dX1_isRead_13 (by decide) ?_
      refine V_icmp_ge (tgt := 57) dX1_isRead_15 (by decide) (fun _ => ?_) (fun h15 => by first | exact absurd (nI_le (Nat.le_refl _) (by decide)) h15 | exact absurd h15 (nI_le (Nat.le_refl _) (by decide)))
      refine V_iconst (v := 0) dX1_isRead_57 (by decide) ?_
      refine V_zret dX1_isRead_58 rfl (by first | rfl | exact bi_n _) (Nat.le_of_ble_eq_true rfl) (Nat.le_of_ble_eq_true rfl) ?_
      exact rp_no e2 (TxS.tr hT nr_TX) nr_2
    | succ f ih =>
      intro i p v L0 τ hi9 hp hT hc hl hL e1 e2
      have e12 : τ.1 12 0 = (σ.1 12 0) := congrFun (hT.1 12 (by decide) (by decide) (by decide) (by decide)) 0
      have hn2 : τ.1 11 0 0 = nI n := hT.2.2.trans hn
      have hch2 : ∀ j, j < n → ∃ ch, ch < 65536 ∧ τ.1 12 0 j = nI ch := fun j hj => by rw [e12]; exact hch j hj
      refine V_iload_n (i := 1) dX1_isRead_12 rfl rfl ?_
      refine V_bipush (v := nI 30) dX1_isRead_13 (by decide) ?_
      refine V_icmp_ge (tgt := 57) dX1_isRead_15 (by decide) (fun h15 => by first | exact absurd h15 (nI_ge (by omega) (by decide)) | exact absurd (nI_ge (by omega) (by decide)) h15) (fun _ => ?_)
      refine V_aload_n (i := 0) dX1_isRead_18 rfl rfl ?_
      refine V_call (d := 6) cv_X1_32 dX1_isRead_19 (t_X1_isCommandRead hA hn2 hn6 hc (by omega) hp hch2) (hp11 hA) rfl rfl rfl rfl (Nat.le_of_ble_eq_true rfl) ⟨Nat.le_refl _, Nat.le_refl _⟩ (by decide) ⟨Nat.le_of_ble_eq_true rfl, Nat.le_of_ble_eq_true rfl⟩ ?_ (fun _ _ h => h.elim)
      rintro r G' h
      rw [e12] at h
      rcases h with ⟨w, c1, rfl, rfl⟩ | ⟨c1, rfl, rfl⟩
      · rw [pGo, if_pos c1] at e1 e2
        refine V_if_ne (tgt := 27) dX1_isRead_22 (by decide) (fun h22 => by first | exact absurd h22 ((by decide)) | exact absurd ((by decide)) h22) (fun _ => ?_)
        refine V_iconst (v := 0) dX1_isRead_25 (by decide) ?_
        refine V_zret dX1_isRead_26 rfl (by first | rfl | exact bi_n _) (Nat.le_of_ble_eq_true rfl) (Nat.le_of_ble_eq_true rfl) ?_
        exact rp_no e2 (TxS.tr hT nr_TX) nr_2
      · have c2 : ¬ (pCmd (σ.1 12 0) n p).1 = false := by rw [c1]; decide
        have hT2 : TxS σ (cmS τ (pCmd (σ.1 12 0) n p).2.1 i (pCmd (σ.1 12 0) n p).2.2.1 (pCmd (σ.1 12 0) n p).2.2.2.1 (pCmd (σ.1 12 0) n p).2.2.2.2) := TxS.tr hT cm_TX
        have hL2 : HLc (cmS τ (pCmd (σ.1 12 0) n p).2.1 i (pCmd (σ.1 12 0) n p).2.2.1 (pCmd (σ.1 12 0) n p).2.2.2.1 (pCmd (σ.1 12 0) n p).2.2.2.2) (L0 ++ [(pCmd (σ.1 12 0) n p).2.2]) := cm_HL hL hl
        rw [pGo, if_neg c2] at e1 e2
        by_cases hq : (pCmd (σ.1 12 0) n p).2.1 = n
        · rw [if_pos hq] at e1 e2
          refine V_if_ne (tgt := 27) dX1_isRead_22 (by decide) (fun _ => ?_) (fun h22 => by first | exact absurd ((by decide)) h22 | exact absurd h22 ((by decide)))
          refine V_aload_n (i := 0) dX1_isRead_27 rfl rfl ?_
          refine V_getf fl_X1_25 dX1_isRead_28 (hp11 hA) rfl ?_
          refine V_aload_n (i := 0) dX1_isRead_31 rfl rfl ?_
          refine V_getf fl_X1_36 dX1_isRead_32 (hp11 hA) rfl ?_
          refine V_icmp_ne (tgt := 40) dX1_isRead_35 (by decide) (fun h35 => by first | exact absurd h35 ((cm_pos.trans ((congrArg nI hq).trans (hT2.2.2.trans hn).symm))) | exact absurd ((cm_pos.trans ((congrArg nI hq).trans (hT2.2.2.trans hn).symm))) h35) (fun _ => ?_)
          refine V_iconst (v := 1) dX1_isRead_38 (by decide) ?_
          refine V_zret dX1_isRead_39 rfl (by first | rfl | exact bi_n _) (Nat.le_of_ble_eq_true rfl) (Nat.le_of_ble_eq_true rfl) ?_
          exact rp_yes e2 hT2 (by rw [cm_cnt, e1, List.length_append, List.length_singleton, hl]) (by rw [e1]; exact hL2) (by rw [e1, List.length_append, List.length_singleton]; omega)
        · rw [if_neg hq] at e1 e2
          have e12b : (cmS τ (pCmd (σ.1 12 0) n p).2.1 i (pCmd (σ.1 12 0) n p).2.2.1 (pCmd (σ.1 12 0) n p).2.2.2.1 (pCmd (σ.1 12 0) n p).2.2.2.2).1 12 0 = (σ.1 12 0) := congrFun (hT2.1 12 (by decide) (by decide) (by decide) (by decide)) 0
          by_cases hm : pMark (σ.1 12 0) n (pCmd (σ.1 12 0) n p).2.1 59 = true
          · rw [if_pos hm] at e1 e2
            have hqn : (pCmd (σ.1 12 0) n p).2.1 < n := by
              simp only [pMark, Bool.and_eq_true, decide_eq_true_eq] at hm
              exact hm.1
            have hqb : (pCmd (σ.1 12 0) n p).2.1 < 990 := by omega
            refine V_if_ne (tgt := 27) dX1_isRead_22 (by decide) (fun _ => ?_) (fun h22 => by first | exact absurd ((by decide)) h22 | exact absurd h22 ((by decide)))
            refine V_aload_n (i := 0) dX1_isRead_27 rfl rfl ?_
            refine V_getf fl_X1_25 dX1_isRead_28 (hp11 hA) rfl ?_
            refine V_aload_n (i := 0) dX1_isRead_31 rfl rfl ?_
            refine V_getf fl_X1_36 dX1_isRead_32 (hp11 hA) rfl ?_
            refine V_icmp_ne (tgt := 40) dX1_isRead_35 (by decide) (fun _ => ?_) (fun h35 => by first | exact absurd ((fun h => hq ((nI_eq (by have := hqb; omega) (by omega)).mp (by rw [cm_pos, hT2.2.2, hn] at h; exact h)))) h35 | exact absurd h35 ((fun h => hq ((nI_eq (by have := hqb; omega) (by omega)).mp (by rw [cm_pos, hT2.2.2, hn] at h; exact h)))))
            refine V.eqG (congrArg (HP A) (nr_id (cm_pos (σ := τ) (p := (pCmd (σ.1 12 0) n p).2.1) (c := i) (k := (pCmd (σ.1 12 0) n p).2.2.1) (a := (pCmd (σ.1 12 0) n p).2.2.2.1) (b := (pCmd (σ.1 12 0) n p).2.2.2.2)))) ?_
            refine V_aload_n (i := 0) dX1_isRead_40 rfl rfl ?_
            refine V_bipush (v := 59) dX1_isRead_41 (by decide) ?_
            refine Cv1_1 (d := 6) cv_X1_39 dX1_isRead_43 (t_X1_isMarkRead hA (hT2.2.2.trans hn) hn6 hqb) (hp11 hA) rfl rfl (Nat.le_of_ble_eq_true rfl) ⟨Nat.le_refl _, Nat.le_refl _⟩ (by decide) ⟨Nat.le_of_ble_eq_true rfl, Nat.le_of_ble_eq_true rfl⟩ ?_
            refine V_if_ne (tgt := 51) dX1_isRead_46 (by decide) (fun _ => ?_) (fun h46 => by first | exact absurd ((by rw [e12b, hm]; decide)) h46 | exact absurd h46 ((by rw [e12b, hm]; decide)))
            refine V_iinc (i := 1) dX1_isRead_51 rfl (inc1 _) (by decide) ?_
            refine V_goto (tgt := 12) dX1_isRead_54 (by decide) ?_
            rw [e12b, if_pos hm]
            refine V.fin [1, 0] rfl rfl (ih (i + 1) ((pCmd (σ.1 12 0) n p).2.1 + 1) _ (L0 ++ [(pCmd (σ.1 12 0) n p).2.2]) (cmS τ (pCmd (σ.1 12 0) n p).2.1 i (pCmd (σ.1 12 0) n p).2.2.1 (pCmd (σ.1 12 0) n p).2.2.2.1 (pCmd (σ.1 12 0) n p).2.2.2.2) (by omega) (by omega) hT2 cm_cnt (by rw [List.length_append, List.length_singleton, hl]) hL2 (by rw [e1, List.append_assoc]; rfl) e2)
          · rw [if_neg hm] at e1 e2
            have hqb : (pCmd (σ.1 12 0) n p).2.1 < 990 := by
              have z := pCmd_lt (σ.1 12 0) n p hn6 hp
              omega
            refine V_if_ne (tgt := 27) dX1_isRead_22 (by decide) (fun _ => ?_) (fun h22 => by first | exact absurd ((by decide)) h22 | exact absurd h22 ((by decide)))
            refine V_aload_n (i := 0) dX1_isRead_27 rfl rfl ?_
            refine V_getf fl_X1_25 dX1_isRead_28 (hp11 hA) rfl ?_
            refine V_aload_n (i := 0) dX1_isRead_31 rfl rfl ?_
            refine V_getf fl_X1_36 dX1_isRead_32 (hp11 hA) rfl ?_
            refine V_icmp_ne (tgt := 40) dX1_isRead_35 (by decide) (fun _ => ?_) (fun h35 => by first | exact absurd ((fun h => hq ((nI_eq (by have := hqb; omega) (by omega)).mp (by rw [cm_pos, hT2.2.2, hn] at h; exact h)))) h35 | exact absurd h35 ((fun h => hq ((nI_eq (by have := hqb; omega) (by omega)).mp (by rw [cm_pos, hT2.2.2, hn] at h; exact h)))))
            refine V.eqG (congrArg (HP A) (nr_id (cm_pos (σ := τ) (p := (pCmd (σ.1 12 0) n p).2.1) (c := i) (k := (pCmd (σ.1 12 0) n p).2.2.1) (a := (pCmd (σ.1 12 0) n p).2.2.2.1) (b := (pCmd (σ.1 12 0) n p).2.2.2.2)))) ?_
            refine V_aload_n (i := 0) dX1_isRead_40 rfl rfl ?_
            refine V_bipush (v := 59) dX1_isRead_41 (by decide) ?_
            refine Cv1_1 (d := 6) cv_X1_39 dX1_isRead_43 (t_X1_isMarkRead hA (hT2.2.2.trans hn) hn6 hqb) (hp11 hA) rfl rfl (Nat.le_of_ble_eq_true rfl) ⟨Nat.le_refl _, Nat.le_refl _⟩ (by decide) ⟨Nat.le_of_ble_eq_true rfl, Nat.le_of_ble_eq_true rfl⟩ ?_
            refine V_if_ne (tgt := 51) dX1_isRead_46 (by decide) (fun h46 => by first | exact absurd h46 ((by rw [e12b, Bool.eq_false_iff.mpr hm]; decide)) | exact absurd ((by rw [e12b, Bool.eq_false_iff.mpr hm]; decide)) h46) (fun _ => ?_)
            refine V_iconst (v := 0) dX1_isRead_49 (by decide) ?_
            refine V_zret dX1_isRead_50 rfl (by first | rfl | exact bi_n _) (Nat.le_of_ble_eq_true rfl) (Nat.le_of_ble_eq_true rfl) ?_
            rw [e12b, if_neg hm]
            exact rp_no e2 (TxS.tr hT2 nr_TX) nr_2
  refine V_aload_n (i := 0) dX1_isRead_0 rfl rfl ?_
  refine V_iconst (v := 0) dX1_isRead_1 (by decide) ?_
  refine VP_11_6 fl_X1_25 dX1_isRead_2 hA ?_
  refine V_aload_n (i := 0) dX1_isRead_5 rfl rfl ?_
  refine V_iconst (v := 0) dX1_isRead_6 (by decide) ?_
  refine VP_11_5 fl_X1_29 dX1_isRead_7 hA ?_
  refine V_iconst (v := 0) dX1_isRead_10 (by decide) ?_
  refine V_istore_n (i := 1) dX1_isRead_11 rfl (by decide) ?_
  have h0 : (w3 (w3 σ 11 0 2 0) 11 0 1 0).1 11 0 2 = nI 0 := (w3_ne (by omega)).trans (w3_eq _ _ _ _ _)
  have hT0 : TxS σ (w3 (w3 σ 11 0 2 0) 11 0 1 0) := TxS.tr (TxS.w rfl) (TxS.w rfl)
  refine V.fin [1, 0] rfl (congrArg (HP A) (nr_id h0)) (loop 30 0 0 _ [] (w3 (w3 σ 11 0 2 0) 11 0 1 0) (by omega) (by omega) hT0 (w3_eq _ _ _ _ _) rfl (fun i hi => absurd hi (Nat.not_lt_zero _)) (by rw [← hPA]; rfl) (by rw [← hPA]))

