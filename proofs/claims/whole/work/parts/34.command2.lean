/-! the face: commands -/
theorem pCmd_k {t : Nat → Int32} {n p : Nat} (h : ¬ (pCmd t n p).1 = false) : (pCmd t n p).2.2.1 < 8 := by
  have h8 : pK t n p < 9 := by
    unfold pK
    split
    · exact kIx_lt _
    · decide
  revert h
  unfold pCmd
  repeat' split
  all_goals (intro h; first | exact absurd rfl h | (dsimp only; omega))
theorem pGo_k {t : Nat → Int32} {n : Nat} : ∀ (f p : Nat), (pGo t n f p).2 = none → ∀ c, c ∈ (pGo t n f p).1 → c.1 < 8
  | 0, p => fun _ c hc => by cases hc
  | f + 1, p => by
    unfold pGo
    split
    · intro _ c hc
      cases hc
    · rename_i h
      split
      · intro _ c hc
        rw [List.mem_singleton] at hc
        rw [hc]
        exact pCmd_k h
      · split
        · intro h2 c hc
          rcases List.mem_cons.mp hc with e | e
          · rw [e]
            exact pCmd_k h
          · exact pGo_k f _ h2 c e
        · intro h2
          cases h2
theorem getD_k {L : List CL} (h : ∀ c, c ∈ L → c.1 < 8) : ∀ i, i < L.length → (L.getD i (0, 0, 0)).1 < 8 := fun i hi => by
  rw [List.getD_eq_getElem?_getD, List.getElem?_eq_getElem hi]
  exact h _ (List.getElem_mem hi)
theorem allS_a {σ : Sg} {g : (Int32 × Int32) × Nat × (Nat → Int32)} {a : Nat} (h5 : ¬ a = 5) (h2 : ¬ a = 2) : (allS σ g).1 a = σ.1 a := by
  unfold allS
  split
  · exact funext fun b => row_ne (fun q => h5 q.1)
  · refine funext fun b => funext fun c => ?_
    unfold rfz
    rw [w3_ne (fun q => h2 q.1), w3_ne (fun q => h2 q.1), w3_ne (fun q => h2 q.1), w3_ne (fun q => h2 q.1), row_ne (fun q => h5 q.1)]
theorem allS_5 {σ : Sg} {g : (Int32 × Int32) × Nat × (Nat → Int32)} {k : Nat} (hk : ¬ k = 0) : (allS σ g).1 5 k = σ.1 5 k := by
  unfold allS
  split
  · exact row_ne (fun q => hk q.2)
  · refine funext fun c => ?_
    unfold rfz
    rw [w3_ne (by omega), w3_ne (by omega), w3_ne (by omega), w3_ne (by omega), row_ne (fun q => hk q.2)]
theorem ntd_n {σ : Sg} {nx j : Nat} (h : j < 102) : (ntd σ nx).1 5 (2 + nx) j = σ.1 5 0 j := if_pos ⟨rfl, rfl, decide_eq_true h⟩
/-- the street before the commands is noted, the text is gone; x: the fault's place -/
def cmT (σ : Sg) (x : Int32) : Sg := w3 (w3 σ 0 0 1 x) 11 0 0 0
def comC (A : AT) (σ : Sg) (nx cn nh nc : Nat) (PA : List CL × Option Nat) (r : Option Value) (G' : GH) : Prop :=
  ∃ σ' : Sg, TxS σ σ' ∧ PA.2 = none ∧ (gS nh nc PA.1 0 (σ.1 5 0)).1.1 = 0 ∧ r = some (.int (nI PA.1.length)) ∧ G' = HP A (kpN (allS (ntd (cmT σ' (-1)) nx) (gS nh nc PA.1 0 (σ.1 5 0))) nx cn)
def comX (A : AT) (σ : Sg) (nx nh nc : Nat) (PA : List CL × Option Nat) (E : String) (G' : GH) : Prop :=
  ∃ σ' : Sg, TxS σ σ' ∧ ((∃ q, PA.2 = some q ∧ E = "java/lang/IllegalArgumentException" ∧ G' = HP A (cmT σ' (nI q))) ∨ (PA.2 = none ∧ ¬ (gS nh nc PA.1 0 (σ.1 5 0)).1.1 = 0 ∧ E = "java/lang/UnsupportedOperationException" ∧ G' = HP A (cp (allS (ntd (cmT σ' (-1)) nx) (gS nh nc PA.1 0 (σ.1 5 0))) 0 (2 + nx) (fun j => decide (j < 102)))))
theorem cmT_a {σ : Sg} {x : Int32} {a : Nat} (h : ¬ a = 0) (h2 : ¬ a = 11) : (cmT σ x).1 a = σ.1 a := funext fun b => funext fun c => (w3_ne (fun q => h2 q.1)).trans (w3_ne (fun q => h q.1))

set_option maxHeartbeats 4000000 in
set_option maxRecDepth 100000 in
theorem t_X7_commands {D : va_G} {s0 : State} {l : Launch} {B : Nat} {A : AT} {σ : Sg} (hA : AOK B A) (hl : l.stackTraces = false) {nx : Nat} (hnx : σ.1 3 0 0 = nI nx) (hx9 : nx < 9) {cn : Nat} (hcn : σ.1 3 0 1 = nI cn) (hc8 : cn ≤ 8) {nh : Nat} (h1 : σ.1 5 0 1 = nI nh) (hn8 : nh ≤ 8) {nc : Nat} (h2 : σ.1 5 0 2 = nI nc) (hm : nc ≤ 4) {m : Nat} (hm1 : m ≤ 1000) (hW : Wok m (σ.1 5 0)) {n : Nat} (hn6 : σ.1 11 0 0 = nI n) (hn60 : n ≤ 60) (hch : ∀ j, j < n → ∃ ch, ch < 65536 ∧ σ.1 12 0 j = nI ch) : Tri D s0 l yX7_commands cX7_commands 2 ((some .int)) 7 1 6 [.ref (A 0 0 0)] (HP A σ) (comC A σ nx cn nh nc (pGo (σ.1 12 0) n 30 0)) (comX A σ nx nh nc (pGo (σ.1 12 0) n 30 0)) := by
  refine Tri.ofV (own := RX7) (mn := "commands") (by decide +kernel) rfl rfl (Nat.le_of_ble_eq_true rfl) ?_
  generalize hPA : pGo (σ.1 12 0) n 30 0 = PA
  refine V_aload_n (i := 0) dX7_commands_0 rfl rfl ?_
  refine V_getf fl_X7_44 dX7_commands_1 (hp0 hA) rfl ?_
  refine V_call (d := 7) cv_X7_203 dX7_commands_4 (t_X1_isRead hA hn6 hn60 hch) (hp11 hA) rfl rfl rfl rfl (Nat.le_of_ble_eq_true rfl) ⟨Nat.le_refl _, Nat.le_refl _⟩ (by decide) ⟨Nat.le_of_ble_eq_true rfl, Nat.le_of_ble_eq_true rfl⟩ ?_ (fun _ _ h => h.elim)
  rintro r G' ⟨σ', rfl, rfl, hT, hF, hY⟩
  rw [hPA] at hF hY ⊢
  cases hP : PA.2 with
  | some q =>
    have hq := hF q hP
    refine V_istore_n (i := 1) dX7_commands_7 rfl (by decide) ?_
    refine V_aload_n (i := 0) dX7_commands_8 rfl rfl ?_
    refine V_iload_n (i := 1) dX7_commands_9 rfl rfl ?_
    refine V_if_eq (tgt := 17) dX7_commands_10 (by decide) (fun _ => ?_) (fun h10 => by first | exact absurd ((by simp [bi])) h10 | exact absurd h10 ((by simp [bi])))
    refine V_aload_n (i := 0) dX7_commands_17 rfl rfl ?_
    refine V_getf fl_X7_44 dX7_commands_18 (hp0 hA) rfl ?_
    refine V_getf fl_X7_207 dX7_commands_21 (hp11 hA) rfl ?_
    refine VP_0_7 fl_X7_48 dX7_commands_24 hA ?_
    refine V_aload_n (i := 0) dX7_commands_27 rfl rfl ?_
    refine V_getf fl_X7_44 dX7_commands_28 (hp0 hA) rfl ?_
    refine V_iconst (v := 0) dX7_commands_31 (by decide) ?_
    refine VP_11_4 fl_X7_191 dX7_commands_32 hA ?_
    refine V_iload_n (i := 1) dX7_commands_35 rfl rfl ?_
    refine V.eqG (congrArg (HP A) (show w3 (w3 σ' 0 0 1 (σ'.1 11 0 2)) 11 0 0 0 = cmT σ' (nI q) from by rw [hq]; rfl)) ?_
    refine V_if_ne (tgt := 49) dX7_commands_36 (by decide) (fun h36 => by first | exact absurd h36 ((by simp [bi])) | exact absurd ((by simp [bi])) h36) (fun _ => ?_)
    refine V_throwS th_120 sr_210 hl dX7_commands_39 dX7_commands_42 dX7_commands_43 dX7_commands_45 dX7_commands_48 (Nat.le_of_ble_eq_true rfl) (Nat.le_of_ble_eq_true rfl) (Nat.le_of_ble_eq_true rfl) ?_
    exact ⟨σ', hT, Or.inl ⟨q, hP, rfl, rfl⟩⟩
  | none =>
    obtain ⟨y1, y2, y3⟩ := hY hP
    have t5 : (cmT σ' (-1)).1 5 = σ.1 5 := (cmT_a (by decide) (by decide)).trans (hT.1 5 (by decide) (by decide) (by decide) (by decide))
    have t3 : (cmT σ' (-1)).1 3 = σ.1 3 := (cmT_a (by decide) (by decide)).trans (hT.1 3 (by decide) (by decide) (by decide) (by decide))
    have q5 : (ntd (cmT σ' (-1)) nx).1 5 0 = σ.1 5 0 := ntd_0.trans (congrFun t5 0)
    have q3 : (ntd (cmT σ' (-1)) nx).1 3 = σ.1 3 := (ntd_a (by decide)).trans t3
    have q11 : (ntd (cmT σ' (-1)) nx).1 11 0 1 = nI PA.1.length := (congrFun (congrFun (ntd_a (by decide)) 0) 1).trans (((w3_ne (by omega)).trans (w3_ne (by omega))).trans y1)
    have qL : HLc (ntd (cmT σ' (-1)) nx) PA.1 := y2.eq ((ntd_a (by decide)).trans (cmT_a (by decide) (by decide))) ((ntd_a (by decide)).trans (cmT_a (by decide) (by decide))) ((ntd_a (by decide)).trans (cmT_a (by decide) (by decide)))
    have a3 : (allS (ntd (cmT σ' (-1)) nx) (gS nh nc PA.1 0 (σ.1 5 0))).1 3 = σ.1 3 := (allS_a (by decide) (by decide)).trans q3
    have hk : ∀ i, i < PA.1.length → (PA.1.getD i (0, 0, 0)).1 < 8 := getD_k (by rw [← hPA] at hP ⊢; exact pGo_k 30 0 hP)
    have hb5 : ∀ i, i < 8 → (cmT σ' (-1)).1 5 0 (hx i 7) = 0 ∨ (cmT σ' (-1)).1 5 0 (hx i 7) = 1 := fun i hi => by rw [t5]; exact hW.bon hi
    have hb6 : ∀ i, i < 8 → (allS (ntd (cmT σ' (-1)) nx) (gS nh nc PA.1 0 (σ.1 5 0))).1 5 (2 + nx) (hx i 7) = 0 ∨ (allS (ntd (cmT σ' (-1)) nx) (gS nh nc PA.1 0 (σ.1 5 0))).1 5 (2 + nx) (hx i 7) = 1 := fun i hi => by rw [allS_5 (by omega), ntd_n (by unfold hx; omega)]; exact hb5 i hi
    refine V_istore_n (i := 1) dX7_commands_7 rfl (by decide) ?_
    refine V_aload_n (i := 0) dX7_commands_8 rfl rfl ?_
    refine V_iload_n (i := 1) dX7_commands_9 rfl rfl ?_
    refine V_if_eq (tgt := 17) dX7_commands_10 (by decide) (fun h10 => by first | exact absurd h10 ((by simp [bi])) | exact absurd ((by simp [bi])) h10) (fun _ => ?_)
    refine V_iconst (v := (-1)) dX7_commands_13 (by decide) ?_
    refine V_goto (tgt := 24) dX7_commands_14 (by decide) ?_
    refine VP_0_7 fl_X7_48 dX7_commands_24 hA ?_
    refine V_aload_n (i := 0) dX7_commands_27 rfl rfl ?_
    refine V_getf fl_X7_44 dX7_commands_28 (hp0 hA) rfl ?_
    refine V_iconst (v := 0) dX7_commands_31 (by decide) ?_
    refine VP_11_4 fl_X7_191 dX7_commands_32 hA ?_
    refine V_iload_n (i := 1) dX7_commands_35 rfl rfl ?_
    refine V_if_ne (tgt := 49) dX7_commands_36 (by decide) (fun _ => ?_) (fun h36 => by first | exact absurd ((by simp [bi])) h36 | exact absurd h36 ((by simp [bi])))
    refine V_aload_n (i := 0) dX7_commands_49 rfl rfl ?_
    refine V_getf fl_X7_31 dX7_commands_50 (hp0 hA) rfl ?_
    refine V_aload_n (i := 0) dX7_commands_53 rfl rfl ?_
    refine V_getf fl_X7_20 dX7_commands_54 (hp0 hA) rfl ?_
    refine Cv0_1 (d := 7) cv_X7_59 dX7_commands_57 ((t_X2_note (σ := (cmT σ' (-1))) hA ((congrFun (congrFun t3 0) 0).trans hnx) hx9 hb5)) (hp3 hA) rfl rfl (Nat.le_of_ble_eq_true rfl) ⟨Nat.le_refl _, Nat.le_refl _⟩ (by decide) ⟨Nat.le_of_ble_eq_true rfl, Nat.le_of_ble_eq_true rfl⟩ ?_
    refine V_aload_n (i := 0) dX7_commands_60 rfl rfl ?_
    refine Cv1_0 (d := 7) cv_X7_212 dX7_commands_61 (t_X7_allCarriedOut (σ := (ntd (cmT σ' (-1)) nx)) hA ((congrFun q5 1).trans h1) hn8 ((congrFun q5 2).trans h2) hm hm1 (by rw [q5]; exact hW) hk q11 qL y3) (hp0 hA) rfl rfl (Nat.le_of_ble_eq_true rfl) ⟨Nat.le_refl _, Nat.le_refl _⟩ (by decide) ⟨Nat.le_of_ble_eq_true rfl, Nat.le_of_ble_eq_true rfl⟩ ?_
    rw [q5]
    by_cases hg : (gS nh nc PA.1 0 (σ.1 5 0)).1.1 = 0
    · refine V_if_ne (tgt := 88) dX7_commands_64 (by decide) (fun _ => ?_) (fun h64 => by first | exact absurd ((by simp [bi, hg])) h64 | exact absurd h64 ((by simp [bi, hg])))
      refine V_aload_n (i := 0) dX7_commands_88 rfl rfl ?_
      refine V_getf fl_X7_31 dX7_commands_89 (hp0 hA) rfl ?_
      refine Cv0_0 (d := 7) cv_X7_223 dX7_commands_92 ((t_X2_keepNoted (σ := (allS (ntd (cmT σ' (-1)) nx) (gS nh nc PA.1 0 (σ.1 5 0)))) hA ((congrFun (congrFun a3 0) 0).trans hnx) hx9 ((congrFun (congrFun a3 0) 1).trans hcn) hc8)) (hp3 hA) rfl rfl (Nat.le_of_ble_eq_true rfl) ⟨Nat.le_refl _, Nat.le_refl _⟩ (by decide) ⟨Nat.le_of_ble_eq_true rfl, Nat.le_of_ble_eq_true rfl⟩ ?_
      refine V_aload_n (i := 0) dX7_commands_95 rfl rfl ?_
      refine V_getf fl_X7_44 dX7_commands_96 (hp0 hA) rfl ?_
      refine V_getf fl_X7_226 dX7_commands_99 (hp11 hA) rfl ?_
      refine V_iret dX7_commands_102 rfl (Nat.le_of_ble_eq_true rfl) (Nat.le_of_ble_eq_true rfl) ?_
      refine ⟨σ', hT, hP, hg, congrArg (fun z => some (Value.int z)) ?_, rfl⟩
      refine ((w3_ne (by omega)).trans (w3_ne (by omega))).trans ?_
      rw [allS_a (by decide) (by decide)]
      exact q11
    · refine V_if_ne (tgt := 88) dX7_commands_64 (by decide) (fun h64 => by first | exact absurd h64 ((by simp [bi, hg])) | exact absurd ((by simp [bi, hg])) h64) (fun _ => ?_)
      refine V_aload_n (i := 0) dX7_commands_67 rfl rfl ?_
      refine V_getf fl_X7_31 dX7_commands_68 (hp0 hA) rfl ?_
      refine V_aload_n (i := 0) dX7_commands_71 rfl rfl ?_
      refine V_getf fl_X7_20 dX7_commands_72 (hp0 hA) rfl ?_
      refine Cv0_1 (d := 7) cv_X7_215 dX7_commands_75 ((t_X2_bringBackNoted (σ := (allS (ntd (cmT σ' (-1)) nx) (gS nh nc PA.1 0 (σ.1 5 0)))) hA ((congrFun (congrFun a3 0) 0).trans hnx) hx9 hb6)) (hp3 hA) rfl rfl (Nat.le_of_ble_eq_true rfl) ⟨Nat.le_refl _, Nat.le_refl _⟩ (by decide) ⟨Nat.le_of_ble_eq_true rfl, Nat.le_of_ble_eq_true rfl⟩ ?_
      refine V_throwS th_218 sr_220 hl dX7_commands_78 dX7_commands_81 dX7_commands_82 dX7_commands_84 dX7_commands_87 (Nat.le_of_ble_eq_true rfl) (Nat.le_of_ble_eq_true rfl) (Nat.le_of_ble_eq_true rfl) ?_
      exact ⟨σ', hT, Or.inr ⟨hP, hg, rfl, rfl⟩⟩

