/-! the reference: all of a text -/
def HLr (τ : Sg) (L : List CL) : Prop := ∀ i, i < L.length → τ.1 27 0 i = nI (L.getD i (0, 0, 0)).1 ∧ (L.getD i (0, 0, 0)).1 < 8 ∧ τ.1 28 0 (2 * i) = (L.getD i (0, 0, 0)).2.1 ∧ ((L.getD i (0, 0, 0)).1 = 2 ∨ (L.getD i (0, 0, 0)).1 = 5 → τ.1 28 0 (2 * i + 1) = (L.getD i (0, 0, 0)).2.2)
def RAP (A : AT) (σ : Sg) (PA : List CL × Option Nat) (r : Option Value) (G' : GH) : Prop := ∃ τ : Sg, r = none ∧ G' = HP A τ ∧ TR σ τ ∧ (∀ q, PA.2 = some q → τ.1 20 0 19 = nI q) ∧ (PA.2 = none → τ.1 20 0 19 = -1 ∧ τ.1 20 0 20 = nI PA.1.length ∧ HLr τ PA.1 ∧ PA.1.length ≤ 31)
theorem rp_f {A : AT} {σ τ : Sg} {PA : List CL × Option Nat} {q : Nat} (e : PA.2 = some q) (h : TR σ τ) (hw : τ.1 20 0 19 = nI q) : RAP A σ PA none (HP A τ) := by
  refine ⟨τ, rfl, rfl, h, fun z hz => ?_, fun hz => ?_⟩
  · rw [e] at hz
    cases hz
    exact hw
  · rw [e] at hz
    cases hz
theorem rp_t {A : AT} {σ τ : Sg} {PA : List CL × Option Nat} (e : PA.2 = none) (h : TR σ τ) (h1 : τ.1 20 0 19 = -1) (h2 : τ.1 20 0 20 = nI PA.1.length) (h3 : HLr τ PA.1) (h4 : PA.1.length ≤ 31) : RAP A σ PA none (HP A τ) := by
  refine ⟨τ, rfl, rfl, h, fun z hz => ?_, fun _ => ⟨h1, h2, h3, h4⟩⟩
  rw [e] at hz
  cases hz
/-- a command more -/
theorem HLr.add {σ τ : Sg} {L : List CL} {C : CR} (h : HLr σ L) (hk : C.2.2.1 < 8) (h1 : ∀ i, τ.1 27 0 i = if i = L.length then nI C.2.2.1 else σ.1 27 0 i) (h2 : ∀ j, j < 2 * L.length → τ.1 28 0 j = σ.1 28 0 j) (h3 : τ.1 28 0 (2 * L.length) = C.2.2.2.1) (h4 : C.2.2.1 = 2 ∨ C.2.2.1 = 5 → τ.1 28 0 (2 * L.length + 1) = C.2.2.2.2) : HLr τ (L ++ [C.2.2]) := by
  intro i hi
  rw [List.length_append, List.length_singleton] at hi
  by_cases hc : i = L.length
  · have e : (L ++ [C.2.2]).getD i (0, 0, 0) = C.2.2 := by
      rw [hc, List.getD_eq_getElem?_getD, List.getElem?_append_right (Nat.le_refl _), Nat.sub_self]
      rfl
    rw [e, h1, if_pos hc, hc]
    exact ⟨rfl, hk, h3, h4⟩
  · have e : (L ++ [C.2.2]).getD i (0, 0, 0) = L.getD i (0, 0, 0) := by
      rw [List.getD_eq_getElem?_getD, List.getElem?_append_left (by omega), ← List.getD_eq_getElem?_getD]
    rw [e, h1, if_neg hc, h2 _ (by omega), h2 _ (by omega)]
    exact h i (by omega)
theorem pCmd_t {t : Nat → Int32} {n p : Nat} (h : (pCmd t n p).1 = true) : p < n ∧ p + 1 ≤ (pCmd t n p).2.1 ∧ (pCmd t n p).2.1 ≤ n := by
  have h0 : p < n := by
    by_cases z : p < n
    · exact z
    · have e : pK t n p = 8 := if_neg z
      rw [pCmd, if_pos e] at h
      cases h
  have h1 := pNum_le (t := t) (n := n) (fdN (pK t n p)) (p + 1) 0
  have h2 := pNum_le (t := t) (n := n) (sdN (pK t n p)) ((pNum t n (fdN (pK t n p)) (p + 1) 0).1 + 1) 0
  unfold pCmd at h ⊢
  refine ⟨h0, ?_⟩
  revert h
  split
  · intro h; cases h
  · split
    · intro h; cases h
    · split
      · intro _
        dsimp only
        omega
      · split
        · intro h; cases h
        · rename_i hm
          split
          · intro h; cases h
          · intro _
            dsimp only
            have : (pNum t n (fdN (pK t n p)) (p + 1) 0).1 < n := by
              by_cases z : (pNum t n (fdN (pK t n p)) (p + 1) 0).1 < n
              · exact z
              · exact absurd (by simp [pMark, z]) hm
            omega
theorem pCmd_f {t : Nat → Int32} {n p : Nat} (h : n ≤ p) : pCmd t n p = (false, p, 0, 0, 0) := by
  have e : pK t n p = 8 := if_neg (by omega)
  rw [pCmd, if_pos e]
/-- what a text's rest says where its next command would begin at q + 1 -/
theorem pGo_q {t : Nat → Int32} {n f p : Nat} (hf : f = 0 → n ≤ p) (h : (pCmd t n p).1 = false) : (pGo t n f p).2 = some (pCmd t n p).2.1 := by
  cases f with
  | zero => rw [pCmd_f (hf rfl)]; rfl
  | succ f => rw [pGo, if_pos h]

set_option maxHeartbeats 4000000 in
set_option maxRecDepth 100000 in
theorem t_X8_readsAll {D : va_G} {s0 : State} {l : Launch} {B : Nat} {A : AT} {σ : Sg} (hA : AOK B A) {t : Nat → Int32} {n : Nat} (ht : σ.1 25 0 = t) (hn : σ.1 20 0 17 = nI n) (hn6 : n ≤ 60) : Tri D s0 l yX8_readsAll cX8_readsAll 2 (none) 7 0 0 [.ref (A 20 0 0)] (HP A σ) (RAP A σ (pGo t n 30 0)) noX := by
  refine Tri.ofV (own := RX8) (mn := "readsAll") (by decide +kernel) rfl rfl (Nat.le_of_ble_eq_true rfl) ?_
  generalize hPA : pGo t n 30 0 = PA
  have stop : ∀ (τ : Sg) (q : Nat), TR σ τ → q < 1000 → τ.1 20 0 19 = nI q → PA.2 = some q → V D s0 RX8 "readsAll" cX8_readsAll 2 (none) [] l (rmd 7 0 0) (Zm D s0 0 0 (RAP A σ PA) noX) 19 [(0, .ref (A 20 0 0))] [] (HP A τ) 0 0 := by
    intro τ q hT hq hw e
    refine V_aload_n (i := 0) dX8_readsAll_19 rfl rfl ?_
    refine V_getf fl_X8_190 dX8_readsAll_20 (hp20 hA) rfl ?_
    refine V_iconst (v := (-1)) dX8_readsAll_23 (by decide) ?_
    refine V_icmp_ne (tgt := 62) dX8_readsAll_24 (by decide) (fun _ => ?_) (fun h24 => by first | exact absurd ((fun z => m1_ne hq (hw.symm.trans z))) h24 | exact absurd h24 ((fun z => m1_ne hq (hw.symm.trans z))))
    refine V_vret dX8_readsAll_62 rfl (Nat.le_of_ble_eq_true rfl) (Nat.le_of_ble_eq_true rfl) ?_
    exact rp_f e hT hw
  have loop : ∀ (f q : Nat) (τ : Sg) (L0 : List CL), q ≤ n → n ≤ q + 1 + 2 * f → 2 * L0.length ≤ q + 1 → TR σ τ → τ.1 20 0 20 = nI L0.length → τ.1 20 0 18 = nI q → τ.1 20 0 19 = -1 → HLr τ L0 → (if q = n then PA = (L0, none) else if pMark t n q 59 = true then PA.1 = L0 ++ (pGo t n f (q + 1)).1 ∧ PA.2 = (pGo t n f (q + 1)).2 else PA.2 = some q) → V D s0 RX8 "readsAll" cX8_readsAll 2 (none) [] l (rmd 7 0 0) (Zm D s0 0 0 (RAP A σ PA) noX) 19 [(0, .ref (A 20 0 0))] [] (HP A τ) 0 0 := by
    intro f
    induction f using Nat.strongRecOn with
    | ind f ih =>
    intro q τ L0 hqn hfu hlen hT hc ha hw hL hE
    have ht2 : τ.1 25 0 = t := (congrFun (hT.1 25 (by decide) (by decide) (by decide)) 0).trans ht
    have hn2 : τ.1 20 0 17 = nI n := (hT.2.1 17 (by decide)).trans hn
    by_cases hq : q = n
    · rw [if_pos hq] at hE
      refine V_aload_n (i := 0) dX8_readsAll_19 rfl rfl ?_
      refine V_getf fl_X8_190 dX8_readsAll_20 (hp20 hA) rfl ?_
      refine V_iconst (v := (-1)) dX8_readsAll_23 (by decide) ?_
      refine V_icmp_ne (tgt := 62) dX8_readsAll_24 (by decide) (fun h24 => by first | exact absurd h24 (hw) | exact absurd (hw) h24) (fun _ => ?_)
      refine V_aload_n (i := 0) dX8_readsAll_27 rfl rfl ?_
      refine V_getf fl_X8_184 dX8_readsAll_28 (hp20 hA) rfl ?_
      refine V_aload_n (i := 0) dX8_readsAll_31 rfl rfl ?_
      refine V_getf fl_X8_187 dX8_readsAll_32 (hp20 hA) rfl ?_
      refine V_icmp_ge (tgt := 62) dX8_readsAll_35 (by decide) (fun _ => ?_) (fun h35 => by first | exact absurd ((by rw [ha, hn2, hq]; exact Int32.le_refl _)) h35 | exact absurd h35 ((by rw [ha, hn2, hq]; exact Int32.le_refl _)))
      refine V_vret dX8_readsAll_62 rfl (Nat.le_of_ble_eq_true rfl) (Nat.le_of_ble_eq_true rfl) ?_
      subst hE
      exact rp_t rfl hT hw hc hL (by dsimp only; omega)
    · rw [if_neg hq] at hE
      by_cases hm : pMark t n q 59 = true
      · rw [if_pos hm] at hE
        have hm2 : ob (t q) 59 59 = false := by
          simp only [pMark, Bool.and_eq_true, decide_eq_true_eq] at hm
          rw [hm.2]
          decide
        refine V_aload_n (i := 0) dX8_readsAll_19 rfl rfl ?_
        refine V_getf fl_X8_190 dX8_readsAll_20 (hp20 hA) rfl ?_
        refine V_iconst (v := (-1)) dX8_readsAll_23 (by decide) ?_
        refine V_icmp_ne (tgt := 62) dX8_readsAll_24 (by decide) (fun h24 => by first | exact absurd h24 (hw) | exact absurd (hw) h24) (fun _ => ?_)
        refine V_aload_n (i := 0) dX8_readsAll_27 rfl rfl ?_
        refine V_getf fl_X8_184 dX8_readsAll_28 (hp20 hA) rfl ?_
        refine V_aload_n (i := 0) dX8_readsAll_31 rfl rfl ?_
        refine V_getf fl_X8_187 dX8_readsAll_32 (hp20 hA) rfl ?_
        refine V_icmp_ge (tgt := 62) dX8_readsAll_35 (by decide) (fun h35 => by first | exact absurd h35 ((by rw [ha, hn2]; exact nI_ge (by omega) (by omega))) | exact absurd ((by rw [ha, hn2]; exact nI_ge (by omega) (by omega))) h35) (fun _ => ?_)
        refine V.eqG (congrArg (HP A) (ps_id ha hw)) ?_
        refine V_aload_n (i := 0) dX8_readsAll_38 rfl rfl ?_
        refine V_bipush (v := 59) dX8_readsAll_39 (by decide) ?_
        refine V_bipush (v := 59) dX8_readsAll_41 (by decide) ?_
        refine Cv1_2 (d := 7) cv_X8_196 dX8_readsAll_43 (t_X8_reads_y hA ht2 hn2 hn6 (by omega) (by omega) hm2) (hp20 hA) rfl rfl (Nat.le_of_ble_eq_true rfl) ⟨Nat.le_refl _, Nat.le_refl _⟩ (by decide) ⟨Nat.le_of_ble_eq_true rfl, Nat.le_of_ble_eq_true rfl⟩ ?_
        refine V_istore_n (i := 1) dX8_readsAll_46 rfl (by decide) ?_
        refine V_aload_n (i := 0) dX8_readsAll_47 rfl rfl ?_
        refine V_getf fl_X8_190 dX8_readsAll_48 (hp20 hA) rfl ?_
        refine V_iconst (v := (-1)) dX8_readsAll_51 (by decide) ?_
        refine V_icmp_ne (tgt := 59) dX8_readsAll_52 (by decide) (fun h52 => by first | exact absurd h52 (ps_19) | exact absurd (ps_19) h52) (fun _ => ?_)
        refine V_aload_n (i := 0) dX8_readsAll_55 rfl rfl ?_
        refine V_call (d := 7) cv_X8_217 dX8_readsAll_56 (t_X8_readsCommand hA (c := L0.length) ht2 hn2 hn6 (by omega) hc (by omega)) (hp20 hA) rfl rfl rfl rfl (Nat.le_of_ble_eq_true rfl) ⟨Nat.le_refl _, Nat.le_refl _⟩ (by decide) ⟨Nat.le_of_ble_eq_true rfl, Nat.le_of_ble_eq_true rfl⟩ ?_ (fun _ _ h => h.elim)
        rintro r G' ⟨τ2, rfl, rfl, hT2, hc2, hF, hY⟩
        have hT3 : TR σ τ2 := TR.tr hT hT2
        cases hC : (pCmd t n (q + 1)).1 with
        | false =>
          refine V_goto (tgt := 19) dX8_readsAll_59 (by decide) ?_
          refine V.fin [1] rfl rfl (stop τ2 (pCmd t n (q + 1)).2.1 hT3 ?_ (hF hC) ?_)
          · have := pCmd_lt t n (q + 1) hn6 (by omega)
            omega
          · rw [hE.2]
            exact pGo_q (fun z => by omega) hC
        | true =>
          obtain ⟨y1, y2, y3, y4, y5, y6, y7⟩ := hY hC
          obtain ⟨z1, z2, z3⟩ := pCmd_t hC
          cases f with
          | zero => omega
          | succ f =>
            refine V_goto (tgt := 19) dX8_readsAll_59 (by decide) ?_
            refine V.fin [1] rfl rfl (ih f (by omega) (pCmd t n (q + 1)).2.1 τ2 (L0 ++ [(pCmd t n (q + 1)).2.2]) z3 (by omega) (by rw [List.length_append, List.length_singleton]; omega) hT3 (by rw [List.length_append, List.length_singleton]; exact hc2) y1 y2 (HLr.add hL y3 y4 y5 y6 y7) ?_)
            obtain ⟨g1, g2⟩ := hE
            rw [pGo, if_neg (by rw [hC]; decide)] at g1 g2
            by_cases w1 : (pCmd t n (q + 1)).2.1 = n
            · rw [if_pos w1]
              rw [if_pos w1] at g1 g2
              exact Prod.ext g1 g2
            · rw [if_neg w1]
              rw [if_neg w1] at g1 g2
              by_cases w2 : pMark t n (pCmd t n (q + 1)).2.1 59 = true
              · rw [if_pos w2]
                rw [if_pos w2] at g1 g2
                exact ⟨by rw [g1, List.append_assoc]; rfl, g2⟩
              · rw [if_neg w2]
                rw [if_neg w2] at g2
                exact g2
      · rw [if_neg hm] at hE
        have hm2 : ob (sgn t n q) 59 59 = true := by
          rw [sgn, if_pos (show q < n by omega)]
          refine ob_ne (fun e => hm ?_)
          simp [pMark, e]
          omega
        refine V_aload_n (i := 0) dX8_readsAll_19 rfl rfl ?_
        refine V_getf fl_X8_190 dX8_readsAll_20 (hp20 hA) rfl ?_
        refine V_iconst (v := (-1)) dX8_readsAll_23 (by decide) ?_
        refine V_icmp_ne (tgt := 62) dX8_readsAll_24 (by decide) (fun h24 => by first | exact absurd h24 (hw) | exact absurd (hw) h24) (fun _ => ?_)
        refine V_aload_n (i := 0) dX8_readsAll_27 rfl rfl ?_
        refine V_getf fl_X8_184 dX8_readsAll_28 (hp20 hA) rfl ?_
        refine V_aload_n (i := 0) dX8_readsAll_31 rfl rfl ?_
        refine V_getf fl_X8_187 dX8_readsAll_32 (hp20 hA) rfl ?_
        refine V_icmp_ge (tgt := 62) dX8_readsAll_35 (by decide) (fun h35 => by first | exact absurd h35 ((by rw [ha, hn2]; exact nI_ge (by omega) (by omega))) | exact absurd ((by rw [ha, hn2]; exact nI_ge (by omega) (by omega))) h35) (fun _ => ?_)
        refine V.eqG (congrArg (HP A) (ps_id ha hw)) ?_
        refine V_aload_n (i := 0) dX8_readsAll_38 rfl rfl ?_
        refine V_bipush (v := 59) dX8_readsAll_39 (by decide) ?_
        refine V_bipush (v := 59) dX8_readsAll_41 (by decide) ?_
        refine Cv1_2 (d := 7) cv_X8_196 dX8_readsAll_43 (t_X8_reads_n hA ht2 hn2 hn6 (by omega) hm2) (hp20 hA) rfl rfl (Nat.le_of_ble_eq_true rfl) ⟨Nat.le_refl _, Nat.le_refl _⟩ (by decide) ⟨Nat.le_of_ble_eq_true rfl, Nat.le_of_ble_eq_true rfl⟩ ?_
        refine V_istore_n (i := 1) dX8_readsAll_46 rfl (by decide) ?_
        refine V_aload_n (i := 0) dX8_readsAll_47 rfl rfl ?_
        refine V_getf fl_X8_190 dX8_readsAll_48 (hp20 hA) rfl ?_
        refine V_iconst (v := (-1)) dX8_readsAll_51 (by decide) ?_
        refine V_icmp_ne (tgt := 59) dX8_readsAll_52 (by decide) (fun _ => ?_) (fun h52 => by first | exact absurd ((fun z => m1_ne (q := q) (by omega) (ps_19.symm.trans z))) h52 | exact absurd h52 ((fun z => m1_ne (q := q) (by omega) (ps_19.symm.trans z))))
        refine V_goto (tgt := 19) dX8_readsAll_59 (by decide) ?_
        exact V.fin [1] rfl rfl (stop (pst τ q (nI q)) q (TR.tr hT ps_TR) (by omega) ps_19 hE)
  have hT0 : TR σ (w3 (w3 (w3 σ 20 0 18 0) 20 0 19 (-1)) 20 0 20 0) := TR.tr (TR.w (Or.inl ⟨rfl, by decide⟩)) (TR.tr (TR.w (Or.inl ⟨rfl, by decide⟩)) (TR.w (Or.inl ⟨rfl, by decide⟩)))
  have ha0 : (w3 (w3 (w3 σ 20 0 18 0) 20 0 19 (-1)) 20 0 20 0).1 20 0 18 = nI 0 := (w3_ne (by omega)).trans ((w3_ne (by omega)).trans (w3_eq _ _ _ _ _))
  have hw0 : (w3 (w3 (w3 σ 20 0 18 0) 20 0 19 (-1)) 20 0 20 0).1 20 0 19 = -1 := (w3_ne (by omega)).trans (w3_eq _ _ _ _ _)
  have hc0 : (w3 (w3 (w3 σ 20 0 18 0) 20 0 19 (-1)) 20 0 20 0).1 20 0 20 = nI ([] : List CL).length := w3_eq _ _ _ _ _
  have ht2 : (w3 (w3 (w3 σ 20 0 18 0) 20 0 19 (-1)) 20 0 20 0).1 25 0 = t := (congrFun (hT0.1 25 (by decide) (by decide) (by decide)) 0).trans ht
  have hn2 : (w3 (w3 (w3 σ 20 0 18 0) 20 0 19 (-1)) 20 0 20 0).1 20 0 17 = nI n := (hT0.2.1 17 (by decide)).trans hn
  refine V_aload_n (i := 0) dX8_readsAll_0 rfl rfl ?_
  refine V_iconst (v := 0) dX8_readsAll_1 (by decide) ?_
  refine VP_20_18 fl_X8_184 dX8_readsAll_2 hA ?_
  refine V_aload_n (i := 0) dX8_readsAll_5 rfl rfl ?_
  refine V_iconst (v := (-1)) dX8_readsAll_6 (by decide) ?_
  refine VP_20_19 fl_X8_190 dX8_readsAll_7 hA ?_
  refine V_aload_n (i := 0) dX8_readsAll_10 rfl rfl ?_
  refine V_iconst (v := 0) dX8_readsAll_11 (by decide) ?_
  refine VP_20_20 fl_X8_210 dX8_readsAll_12 hA ?_
  refine V_aload_n (i := 0) dX8_readsAll_15 rfl rfl ?_
  refine V.eqG (congrArg (HP A) (ps_id ha0 hw0)) ?_
  refine V_call (d := 7) cv_X8_217 dX8_readsAll_16 (t_X8_readsCommand hA (c := 0) ht2 hn2 hn6 (by omega) hc0 (by omega)) (hp20 hA) rfl rfl rfl rfl (Nat.le_of_ble_eq_true rfl) ⟨Nat.le_refl _, Nat.le_refl _⟩ (by decide) ⟨Nat.le_of_ble_eq_true rfl, Nat.le_of_ble_eq_true rfl⟩ ?_ (fun _ _ h => h.elim)
  rintro r G' ⟨τ2, rfl, rfl, hT2, hc2, hF, hY⟩
  have hT3 : TR σ τ2 := TR.tr hT0 hT2
  cases hC : (pCmd t n 0).1 with
  | false =>
    refine V.fin [0] rfl rfl (stop τ2 (pCmd t n 0).2.1 hT3 ?_ (hF hC) ?_)
    · have := pCmd_lt t n 0 hn6 (by omega)
      omega
    · rw [← hPA]
      exact pGo_q (fun z => by omega) hC
  | true =>
    obtain ⟨y1, y2, y3, y4, y5, y6, y7⟩ := hY hC
    obtain ⟨z1, z2, z3⟩ := pCmd_t hC
    refine V.fin [0] rfl rfl (loop 29 (pCmd t n 0).2.1 τ2 ([] ++ [(pCmd t n 0).2.2]) z3 (by omega) (by rw [List.length_append, List.length_singleton]; simp; omega) hT3 (by rw [hc2]; rfl) y1 y2 (HLr.add (fun i hi => absurd hi (Nat.not_lt_zero _)) y3 y4 y5 y6 y7) ?_)
    have hg : PA = (if (pCmd t n 0).2.1 = n then ([(pCmd t n 0).2.2], none) else if pMark t n (pCmd t n 0).2.1 59 = true then ((pCmd t n 0).2.2 :: (pGo t n 29 ((pCmd t n 0).2.1 + 1)).1, (pGo t n 29 ((pCmd t n 0).2.1 + 1)).2) else ([(pCmd t n 0).2.2], some (pCmd t n 0).2.1)) := by
      rw [← hPA, pGo, if_neg (show ¬ (pCmd t n 0).1 = false by rw [hC]; decide)]
    by_cases w1 : (pCmd t n 0).2.1 = n
    · rw [if_pos w1] at hg ⊢
      exact hg
    · rw [if_neg w1] at hg ⊢
      by_cases w2 : pMark t n (pCmd t n 0).2.1 59 = true
      · rw [if_pos w2] at hg ⊢
        exact ⟨by rw [hg]; rfl, by rw [hg]⟩
      · rw [if_neg w2] at hg ⊢
        rw [hg]

