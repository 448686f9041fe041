/-! the reference: a text is read -/
def TR (σ τ : Sg) : Prop := (∀ a, ¬ a = 20 → ¬ a = 27 → ¬ a = 28 → τ.1 a = σ.1 a) ∧ (∀ f, f < 18 → τ.1 20 0 f = σ.1 20 0 f) ∧ τ.2 = σ.2
theorem TR.rf {σ : Sg} : TR σ σ := ⟨fun _ _ _ _ => rfl, fun _ _ => rfl, rfl⟩
theorem TR.tr {σ τ ρ : Sg} (h : TR σ τ) (k : TR τ ρ) : TR σ ρ := ⟨fun a h1 h2 h3 => (k.1 a h1 h2 h3).trans (h.1 a h1 h2 h3), fun f hf => (k.2.1 f hf).trans (h.2.1 f hf), k.2.2.trans h.2.2⟩
theorem TR.w {σ : Sg} {a c : Nat} {x : Int32} (h : (a = 20 ∧ 18 ≤ c) ∨ a = 27 ∨ a = 28) : TR σ (w3 σ a 0 c x) :=
  ⟨fun a' h1 h2 h3 => funext fun b' => funext fun c' => w3_ne (fun q => by omega), fun f hf => w3_ne (fun q => by omega), rfl⟩
theorem ps_TR {σ : Sg} {p : Nat} {w : Int32} : TR σ (pst σ p w) := TR.tr (TR.w (Or.inl ⟨rfl, by decide⟩)) (TR.w (Or.inl ⟨rfl, by decide⟩))
def rc1 (σ : Sg) (c k : Nat) (a : Int32) : Sg := w3 (w3 (w3 σ 27 0 c (nI k)) 28 0 (2 * c) a) 20 0 20 (nI (c + 1))
def rc2 (σ : Sg) (c k : Nat) (a b : Int32) : Sg := w3 (w3 (w3 (w3 σ 27 0 c (nI k)) 28 0 (2 * c) a) 28 0 (2 * c + 1) b) 20 0 20 (nI (c + 1))
theorem rc1_TR {σ : Sg} {c k : Nat} {a : Int32} : TR σ (rc1 σ c k a) := TR.tr (TR.w (Or.inr (Or.inl rfl))) (TR.tr (TR.w (Or.inr (Or.inr rfl))) (TR.w (Or.inl ⟨rfl, by decide⟩)))
theorem rc2_TR {σ : Sg} {c k : Nat} {a b : Int32} : TR σ (rc2 σ c k a b) := TR.tr (TR.w (Or.inr (Or.inl rfl))) (TR.tr (TR.w (Or.inr (Or.inr rfl))) (TR.tr (TR.w (Or.inr (Or.inr rfl))) (TR.w (Or.inl ⟨rfl, by decide⟩))))
abbrev CR : Type := Bool × Nat × CL
def RCP (A : AT) (σ : Sg) (c : Nat) (C : CR) (r : Option Value) (G' : GH) : Prop := ∃ τ : Sg, r = none ∧ G' = HP A τ ∧ TR σ τ ∧ τ.1 20 0 20 = nI (c + 1) ∧ (C.1 = false → τ.1 20 0 19 = nI C.2.1) ∧ (C.1 = true → τ.1 20 0 18 = nI C.2.1 ∧ τ.1 20 0 19 = -1 ∧ C.2.2.1 < 8 ∧ (∀ i, τ.1 27 0 i = if i = c then nI C.2.2.1 else σ.1 27 0 i) ∧ (∀ j, j < 2 * c → τ.1 28 0 j = σ.1 28 0 j) ∧ τ.1 28 0 (2 * c) = C.2.2.2.1 ∧ (C.2.2.1 = 2 ∨ C.2.2.1 = 5 → τ.1 28 0 (2 * c + 1) = C.2.2.2.2))
theorem rcn {A : AT} {σ ρ : Sg} {c q p : Nat} {C : CR} {w : Int32} (e : C.1 = false ∧ C.2.1 = q) (h : TR σ ρ) (h2 : ρ.1 20 0 20 = nI (c + 1)) (hw : w = nI q) : RCP A σ c C none (HP A (pst ρ p w)) := by
  subst hw
  exact ⟨_, rfl, rfl, TR.tr h ps_TR, (ps_f (by decide) (by decide)).trans h2, fun _ => by rw [e.2]; exact ps_19, fun z => absurd (e.1.symm.trans z) (by decide)⟩
theorem rcy1 {A : AT} {σ : Sg} {c p k : Nat} {C : CR} {a : Int32} (e : C = (true, p, k, a, 0)) (hk : k < 8) (hk2 : ¬ (k = 2 ∨ k = 5)) : RCP A σ c C none (HP A (pst (rc1 σ c k a) p (-1))) := by
  subst e
  refine ⟨_, rfl, rfl, TR.tr rc1_TR ps_TR, (ps_f (by decide) (by decide)).trans (w3_eq _ _ _ _ _), fun z => (by cases z), fun _ => ⟨ps_18, ps_19, hk, fun i => ?_, fun j hj => ?_, ?_, fun z => absurd z hk2⟩⟩
  · rw [ps_a (by decide)]
    unfold rc1
    rw [w3_ne (by omega), w3_ne (by omega)]
    by_cases h : i = c
    · rw [if_pos h, h, w3_eq]
    · rw [if_neg h, w3_ne (by omega)]
  · rw [ps_a (by decide)]
    unfold rc1
    rw [w3_ne (by omega), w3_ne (by omega), w3_ne (by omega)]
  · rw [ps_a (by decide)]
    unfold rc1
    rw [w3_ne (by omega), w3_eq]
theorem rcy2 {A : AT} {σ : Sg} {c p k : Nat} {C : CR} {a b : Int32} (e : C = (true, p, k, a, b)) (hk : k < 8) : RCP A σ c C none (HP A (pst (rc2 σ c k a b) p (-1))) := by
  subst e
  refine ⟨_, rfl, rfl, TR.tr rc2_TR ps_TR, (ps_f (by decide) (by decide)).trans (w3_eq _ _ _ _ _), fun z => (by cases z), fun _ => ⟨ps_18, ps_19, hk, fun i => ?_, fun j hj => ?_, ?_, fun z => ?_⟩⟩
  · rw [ps_a (by decide)]
    unfold rc2
    rw [w3_ne (by omega), w3_ne (by omega), w3_ne (by omega)]
    by_cases h : i = c
    · rw [if_pos h, h, w3_eq]
    · rw [if_neg h, w3_ne (by omega)]
  · rw [ps_a (by decide)]
    unfold rc2
    rw [w3_ne (by omega), w3_ne (by omega), w3_ne (by omega), w3_ne (by omega)]
  · rw [ps_a (by decide)]
    unfold rc2
    rw [w3_ne (by omega), w3_ne (by omega), w3_eq]
  · rw [ps_a (by decide)]
    unfold rc2
    rw [w3_ne (by omega), w3_eq]

theorem kIx_lt (x : Int32) : kIx x < 9 := by
  unfold kIx
  repeat (split; · omega)
  omega

theorem ob_ne {x a : Int32} (h : ¬ x = a) : ob x a a = true := by
  unfold ob
  rw [Bool.or_eq_true, decide_eq_true_eq, decide_eq_true_eq, Int32.lt_iff_toInt_lt, Int32.lt_iff_toInt_lt]
  have : ¬ x.toInt = a.toInt := fun e => h (Int32.toInt.inj e)
  omega

set_option maxHeartbeats 4000000 in
set_option maxRecDepth 100000 in
theorem t_X8_readsCommand {D : va_G} {s0 : State} {l : Launch} {B : Nat} {A : AT} {σ : Sg} (hA : AOK B A) {t : Nat → Int32} {n p : Nat} (ht : σ.1 25 0 = t) (hn : σ.1 20 0 17 = nI n) (hn6 : n ≤ 60) (hp : p < 900) {c : Nat} (hc : σ.1 20 0 20 = nI c) (hc32 : c < 32) : Tri D s0 l yX8_readsCommand cX8_readsCommand 4 (none) 6 0 0 [.ref (A 20 0 0)] (HP A (pst σ p (-1))) (RCP A σ c (pCmd t n p)) noX := by
  refine Tri.ofV (own := RX8) (mn := "readsCommand") (by decide +kernel) rfl rfl (Nat.le_of_ble_eq_true rfl) ?_
  rcases (by have := kIx_lt (sgn t n p); omega : kIx (sgn t n p) = 0 ∨ kIx (sgn t n p) = 1 ∨ kIx (sgn t n p) = 2 ∨ kIx (sgn t n p) = 3 ∨ kIx (sgn t n p) = 4 ∨ kIx (sgn t n p) = 5 ∨ kIx (sgn t n p) = 6 ∨ kIx (sgn t n p) = 7 ∨ kIx (sgn t n p) = 8) with hk | hk | hk | hk | hk | hk | hk | hk | hk
  · have hpk : pK t n p = 0 := pK_sgn.trans hk
    refine V_aload_n (i := 0) dX8_readsCommand_0 rfl rfl ?_
    refine Cv1_0 (d := 6) cv_X8_207 dX8_readsCommand_1 (t_X8_kind hA ht hn hn6 (by omega)) (hp20 hA) rfl rfl (Nat.le_of_ble_eq_true rfl) ⟨Nat.le_refl _, Nat.le_refl _⟩ (by decide) ⟨Nat.le_of_ble_eq_true rfl, Nat.le_of_ble_eq_true rfl⟩ ?_
    rw [show (if kIx (sgn t n p) = 8 then 0 else kIx (sgn t n p)) = 0 from by rw [hk]; rfl, show (if kIx (sgn t n p) = 8 then pst σ p (nI p) else pst σ (p + 1) (-1)) = pst σ (p + 1) (-1) from by rw [hk]; rfl]
    refine V_istore_n (i := 1) dX8_readsCommand_4 rfl (by decide) ?_
    refine V_aload_n (i := 0) dX8_readsCommand_5 rfl rfl ?_
    refine V_getf fl_X8_32 dX8_readsCommand_6 (hp20 hA) rfl ?_
    refine V_aload_n (i := 0) dX8_readsCommand_9 rfl rfl ?_
    refine V_getf fl_X8_210 dX8_readsCommand_10 (hp20 hA) rfl ?_
    refine V_iload_n (i := 1) dX8_readsCommand_13 rfl rfl ?_
    refine VAP_27 (j := c) dX8_readsCommand_14 hA ((ps_f (by decide) (by decide)).trans hc) (by omega) ?_
    refine V_aload_n (i := 0) dX8_readsCommand_15 rfl rfl ?_
    refine V_getf fl_X8_35 dX8_readsCommand_16 (hp20 hA) rfl ?_
    refine V_iconst (v := nI 2) dX8_readsCommand_19 (by decide) ?_
    refine V_aload_n (i := 0) dX8_readsCommand_20 rfl rfl ?_
    refine V_getf fl_X8_210 dX8_readsCommand_21 (hp20 hA) rfl ?_
    rw [show ∀ (q : Nat) (v : Int32), (pst (w3 σ 27 0 c (nI 0)) q v).1 20 0 20 = nI c from fun q v => ((ps_f (by decide) (by decide)).trans ((w3_ne (by omega)).trans hc))]
    refine V_imul dX8_readsCommand_24 ?_
    refine V_iload_n (i := 1) dX8_readsCommand_25 rfl rfl ?_
    refine V_iconst (v := 3) dX8_readsCommand_26 (by decide) ?_
    refine V_icmp_ne (tgt := 34) dX8_readsCommand_27 (by decide) (fun _ => ?_) (fun h27 => by first | exact absurd ((by decide)) h27 | exact absurd h27 ((by decide)))
    refine V_aload_n (i := 0) dX8_readsCommand_34 rfl rfl ?_
    refine V_iload_n (i := 1) dX8_readsCommand_35 rfl rfl ?_
    refine V_iconst (v := 1) dX8_readsCommand_36 (by decide) ?_
    refine V_icmp_eq (tgt := 46) dX8_readsCommand_37 (by decide) (fun h37 => by first | exact absurd h37 ((by decide)) | exact absurd ((by decide)) h37) (fun _ => ?_)
    refine V_iload_n (i := 1) dX8_readsCommand_40 rfl rfl ?_
    refine V_bipush (v := 7) dX8_readsCommand_41 (by decide) ?_
    refine V_icmp_ne (tgt := 50) dX8_readsCommand_43 (by decide) (fun _ => ?_) (fun h43 => by first | exact absurd ((by decide)) h43 | exact absurd h43 ((by decide)))
    refine V_iconst (v := 0) dX8_readsCommand_50 (by decide) ?_
    refine Cv1_1 (d := 6) cv_X8_213 dX8_readsCommand_51 (t_X8_digits hA (funext fun z => (w3_ne (by omega)).trans (congrFun ht z)) ((w3_ne (by omega)).trans hn) hn6 (by omega) (m := 1) (by decide) (by decide)) (hp20 hA) rfl rfl (Nat.le_of_ble_eq_true rfl) ⟨Nat.le_refl _, Nat.le_refl _⟩ (by decide) ⟨Nat.le_of_ble_eq_true rfl, Nat.le_of_ble_eq_true rfl⟩ ?_
    have hb1 := pNum_le (t := t) (n := n) 1 (p + 1) 0
    by_cases hd : (pNum t n 1 (p + 1) 0).1 = p + 1
    · rw [if_pos hd, if_pos hd]
      refine VAP_28 (j := 2 * c) dX8_readsCommand_54 hA (pk_mul 2 c) (by omega) ?_
      refine V_iload_n (i := 1) dX8_readsCommand_55 rfl rfl ?_
      refine V_iconst (v := 2) dX8_readsCommand_56 (by decide) ?_
      refine V_icmp_eq (tgt := 65) dX8_readsCommand_57 (by decide) (fun h57 => by first | exact absurd h57 ((by decide)) | exact absurd ((by decide)) h57) (fun _ => ?_)
      refine V_iload_n (i := 1) dX8_readsCommand_60 rfl rfl ?_
      refine V_iconst (v := 5) dX8_readsCommand_61 (by decide) ?_
      refine V_icmp_ne (tgt := 112) dX8_readsCommand_62 (by decide) (fun _ => ?_) (fun h62 => by first | exact absurd ((by decide)) h62 | exact absurd h62 ((by decide)))
      refine V_aload_n (i := 0) dX8_readsCommand_112 rfl rfl ?_
      refine V_dup dX8_readsCommand_113 rfl ?_
      refine V_getf fl_X8_210 dX8_readsCommand_114 (hp20 hA) rfl ?_
      refine V_iconst (v := 1) dX8_readsCommand_117 (by decide) ?_
      refine V_iadd dX8_readsCommand_118 ?_
      refine VPt (q := c + 1) fl_X8_210 dX8_readsCommand_119 hA (by rw [show ∀ (s : Sg) (x1 x2 : Int32) (j1 j2 q : Nat) (v : Int32), (pst (w3 (w3 s 27 0 j1 x1) 28 0 j2 x2) q v).1 20 0 20 = s.1 20 0 20 from fun s x1 x2 j1 j2 q v => (ps_f (by decide) (by decide)).trans ((w3_ne (by omega)).trans (w3_ne (by omega))), hc]; exact nI_1 c) ?_
      refine V_vret dX8_readsCommand_122 rfl (Nat.le_of_ble_eq_true rfl) (Nat.le_of_ble_eq_true rfl) ?_
      first
        | (refine rcn (ρ := rc1 σ c 0 _) ?_ rc1_TR (w3_eq _ _ _ _ _) rfl; simp [pCmd, hpk, fdN, mkN, sdN, *]; done)
        | (refine rcy1 (k := 0) ?_ (by decide) (by decide); simp [pCmd, hpk, fdN, mkN, sdN, *]; done)
    · rw [if_neg hd, if_neg hd]
      refine VAP_28 (j := 2 * c) dX8_readsCommand_54 hA (pk_mul 2 c) (by omega) ?_
      refine V_iload_n (i := 1) dX8_readsCommand_55 rfl rfl ?_
      refine V_iconst (v := 2) dX8_readsCommand_56 (by decide) ?_
      refine V_icmp_eq (tgt := 65) dX8_readsCommand_57 (by decide) (fun h57 => by first | exact absurd h57 ((by decide)) | exact absurd ((by decide)) h57) (fun _ => ?_)
      refine V_iload_n (i := 1) dX8_readsCommand_60 rfl rfl ?_
      refine V_iconst (v := 5) dX8_readsCommand_61 (by decide) ?_
      refine V_icmp_ne (tgt := 112) dX8_readsCommand_62 (by decide) (fun _ => ?_) (fun h62 => by first | exact absurd ((by decide)) h62 | exact absurd h62 ((by decide)))
      refine V_aload_n (i := 0) dX8_readsCommand_112 rfl rfl ?_
      refine V_dup dX8_readsCommand_113 rfl ?_
      refine V_getf fl_X8_210 dX8_readsCommand_114 (hp20 hA) rfl ?_
      refine V_iconst (v := 1) dX8_readsCommand_117 (by decide) ?_
      refine V_iadd dX8_readsCommand_118 ?_
      refine VPt (q := c + 1) fl_X8_210 dX8_readsCommand_119 hA (by rw [show ∀ (s : Sg) (x1 x2 : Int32) (j1 j2 q : Nat) (v : Int32), (pst (w3 (w3 s 27 0 j1 x1) 28 0 j2 x2) q v).1 20 0 20 = s.1 20 0 20 from fun s x1 x2 j1 j2 q v => (ps_f (by decide) (by decide)).trans ((w3_ne (by omega)).trans (w3_ne (by omega))), hc]; exact nI_1 c) ?_
      refine V_vret dX8_readsCommand_122 rfl (Nat.le_of_ble_eq_true rfl) (Nat.le_of_ble_eq_true rfl) ?_
      first
        | (refine rcn (ρ := rc1 σ c 0 _) ?_ rc1_TR (w3_eq _ _ _ _ _) rfl; simp [pCmd, hpk, fdN, mkN, sdN, *]; done)
        | (refine rcy1 (k := 0) ?_ (by decide) (by decide); simp [pCmd, hpk, fdN, mkN, sdN, *]; done)
  · have hpk : pK t n p = 1 := pK_sgn.trans hk
    refine V_aload_n (i := 0) dX8_readsCommand_0 rfl rfl ?_
    refine Cv1_0 (d := 6) cv_X8_207 dX8_readsCommand_1 (t_X8_kind hA ht hn hn6 (by omega)) (hp20 hA) rfl rfl (Nat.le_of_ble_eq_true rfl) ⟨Nat.le_refl _, Nat.le_refl _⟩ (by decide) ⟨Nat.le_of_ble_eq_true rfl, Nat.le_of_ble_eq_true rfl⟩ ?_
    rw [show (if kIx (sgn t n p) = 8 then 0 else kIx (sgn t n p)) = 1 from by rw [hk]; rfl, show (if kIx (sgn t n p) = 8 then pst σ p (nI p) else pst σ (p + 1) (-1)) = pst σ (p + 1) (-1) from by rw [hk]; rfl]
    refine V_istore_n (i := 1) dX8_readsCommand_4 rfl (by decide) ?_
    refine V_aload_n (i := 0) dX8_readsCommand_5 rfl rfl ?_
    refine V_getf fl_X8_32 dX8_readsCommand_6 (hp20 hA) rfl ?_
    refine V_aload_n (i := 0) dX8_readsCommand_9 rfl rfl ?_
    refine V_getf fl_X8_210 dX8_readsCommand_10 (hp20 hA) rfl ?_
    refine V_iload_n (i := 1) dX8_readsCommand_13 rfl rfl ?_
    refine VAP_27 (j := c) dX8_readsCommand_14 hA ((ps_f (by decide) (by decide)).trans hc) (by omega) ?_
    refine V_aload_n (i := 0) dX8_readsCommand_15 rfl rfl ?_
    refine V_getf fl_X8_35 dX8_readsCommand_16 (hp20 hA) rfl ?_
    refine V_iconst (v := nI 2) dX8_readsCommand_19 (by decide) ?_
    refine V_aload_n (i := 0) dX8_readsCommand_20 rfl rfl ?_
    refine V_getf fl_X8_210 dX8_readsCommand_21 (hp20 hA) rfl ?_
    rw [show ∀ (q : Nat) (v : Int32), (pst (w3 σ 27 0 c (nI 1)) q v).1 20 0 20 = nI c from fun q v => ((ps_f (by decide) (by decide)).trans ((w3_ne (by omega)).trans hc))]
    refine V_imul dX8_readsCommand_24 ?_
    refine V_iload_n (i := 1) dX8_readsCommand_25 rfl rfl ?_
    refine V_iconst (v := 3) dX8_readsCommand_26 (by decide) ?_
    refine V_icmp_ne (tgt := 34) dX8_readsCommand_27 (by decide) (fun _ => ?_) (fun h27 => by first | exact absurd ((by decide)) h27 | exact absurd h27 ((by decide)))
    refine V_aload_n (i := 0) dX8_readsCommand_34 rfl rfl ?_
    refine V_iload_n (i := 1) dX8_readsCommand_35 rfl rfl ?_
    refine V_iconst (v := 1) dX8_readsCommand_36 (by decide) ?_
    refine V_icmp_eq (tgt := 46) dX8_readsCommand_37 (by decide) (fun _ => ?_) (fun h37 => by first | exact absurd ((by decide)) h37 | exact absurd h37 ((by decide)))
    refine V_iconst (v := 1) dX8_readsCommand_46 (by decide) ?_
    refine V_goto (tgt := 51) dX8_readsCommand_47 (by decide) ?_
    refine Cv1_1 (d := 6) cv_X8_213 dX8_readsCommand_51 (t_X8_digits hA (funext fun z => (w3_ne (by omega)).trans (congrFun ht z)) ((w3_ne (by omega)).trans hn) hn6 (by omega) (m := 2) (by decide) (by decide)) (hp20 hA) rfl rfl (Nat.le_of_ble_eq_true rfl) ⟨Nat.le_refl _, Nat.le_refl _⟩ (by decide) ⟨Nat.le_of_ble_eq_true rfl, Nat.le_of_ble_eq_true rfl⟩ ?_
    have hb1 := pNum_le (t := t) (n := n) 2 (p + 1) 0
    by_cases hd : (pNum t n 2 (p + 1) 0).1 = p + 1
    · rw [if_pos hd, if_pos hd]
      refine VAP_28 (j := 2 * c) dX8_readsCommand_54 hA (pk_mul 2 c) (by omega) ?_
      refine V_iload_n (i := 1) dX8_readsCommand_55 rfl rfl ?_
      refine V_iconst (v := 2) dX8_readsCommand_56 (by decide) ?_
      refine V_icmp_eq (tgt := 65) dX8_readsCommand_57 (by decide) (fun h57 => by first | exact absurd h57 ((by decide)) | exact absurd ((by decide)) h57) (fun _ => ?_)
      refine V_iload_n (i := 1) dX8_readsCommand_60 rfl rfl ?_
      refine V_iconst (v := 5) dX8_readsCommand_61 (by decide) ?_
      refine V_icmp_ne (tgt := 112) dX8_readsCommand_62 (by decide) (fun _ => ?_) (fun h62 => by first | exact absurd ((by decide)) h62 | exact absurd h62 ((by decide)))
      refine V_aload_n (i := 0) dX8_readsCommand_112 rfl rfl ?_
      refine V_dup dX8_readsCommand_113 rfl ?_
      refine V_getf fl_X8_210 dX8_readsCommand_114 (hp20 hA) rfl ?_
      refine V_iconst (v := 1) dX8_readsCommand_117 (by decide) ?_
      refine V_iadd dX8_readsCommand_118 ?_
      refine VPt (q := c + 1) fl_X8_210 dX8_readsCommand_119 hA (by rw [show ∀ (s : Sg) (x1 x2 : Int32) (j1 j2 q : Nat) (v : Int32), (pst (w3 (w3 s 27 0 j1 x1) 28 0 j2 x2) q v).1 20 0 20 = s.1 20 0 20 from fun s x1 x2 j1 j2 q v => (ps_f (by decide) (by decide)).trans ((w3_ne (by omega)).trans (w3_ne (by omega))), hc]; exact nI_1 c) ?_
      refine V_vret dX8_readsCommand_122 rfl (Nat.le_of_ble_eq_true rfl) (Nat.le_of_ble_eq_true rfl) ?_
      first
        | (refine rcn (ρ := rc1 σ c 1 _) ?_ rc1_TR (w3_eq _ _ _ _ _) rfl; simp [pCmd, hpk, fdN, mkN, sdN, *]; done)
        | (refine rcy1 (k := 1) ?_ (by decide) (by decide); simp [pCmd, hpk, fdN, mkN, sdN, *]; done)
    · rw [if_neg hd, if_neg hd]
      refine VAP_28 (j := 2 * c) dX8_readsCommand_54 hA (pk_mul 2 c) (by omega) ?_
      refine V_iload_n (i := 1) dX8_readsCommand_55 rfl rfl ?_
      refine V_iconst (v := 2) dX8_readsCommand_56 (by decide) ?_
      refine V_icmp_eq (tgt := 65) dX8_readsCommand_57 (by decide) (fun h57 => by first | exact absurd h57 ((by decide)) | exact absurd ((by decide)) h57) (fun _ => ?_)
      refine V_iload_n (i := 1) dX8_readsCommand_60 rfl rfl ?_
      refine V_iconst (v := 5) dX8_readsCommand_61 (by decide) ?_
      refine V_icmp_ne (tgt := 112) dX8_readsCommand_62 (by decide) (fun _ => ?_) (fun h62 => by first | exact absurd ((by decide)) h62 | exact absurd h62 ((by decide)))
      refine V_aload_n (i := 0) dX8_readsCommand_112 rfl rfl ?_
      refine V_dup dX8_readsCommand_113 rfl ?_
      refine V_getf fl_X8_210 dX8_readsCommand_114 (hp20 hA) rfl ?_
      refine V_iconst (v := 1) dX8_readsCommand_117 (by decide) ?_
      refine V_iadd dX8_readsCommand_118 ?_
      refine VPt (q := c + 1) fl_X8_210 dX8_readsCommand_119 hA (by rw [show ∀ (s : Sg) (x1 x2 : Int32) (j1 j2 q : Nat) (v : Int32), (pst (w3 (w3 s 27 0 j1 x1) 28 0 j2 x2) q v).1 20 0 20 = s.1 20 0 20 from fun s x1 x2 j1 j2 q v => (ps_f (by decide) (by decide)).trans ((w3_ne (by omega)).trans (w3_ne (by omega))), hc]; exact nI_1 c) ?_
      refine V_vret dX8_readsCommand_122 rfl (Nat.le_of_ble_eq_true rfl) (Nat.le_of_ble_eq_true rfl) ?_
      first
        | (refine rcn (ρ := rc1 σ c 1 _) ?_ rc1_TR (w3_eq _ _ _ _ _) rfl; simp [pCmd, hpk, fdN, mkN, sdN, *]; done)
        | (refine rcy1 (k := 1) ?_ (by decide) (by decide); simp [pCmd, hpk, fdN, mkN, sdN, *]; done)
  · have hpk : pK t n p = 2 := pK_sgn.trans hk
    refine V_aload_n (i := 0) dX8_readsCommand_0 rfl rfl ?_
    refine Cv1_0 (d := 6) cv_X8_207 dX8_readsCommand_1 (t_X8_kind hA ht hn hn6 (by omega)) (hp20 hA) rfl rfl (Nat.le_of_ble_eq_true rfl) ⟨Nat.le_refl _, Nat.le_refl _⟩ (by decide) ⟨Nat.le_of_ble_eq_true rfl, Nat.le_of_ble_eq_true rfl⟩ ?_
    rw [show (if kIx (sgn t n p) = 8 then 0 else kIx (sgn t n p)) = 2 from by rw [hk]; rfl, show (if kIx (sgn t n p) = 8 then pst σ p (nI p) else pst σ (p + 1) (-1)) = pst σ (p + 1) (-1) from by rw [hk]; rfl]
    refine V_istore_n (i := 1) dX8_readsCommand_4 rfl (by decide) ?_
    refine V_aload_n (i := 0) dX8_readsCommand_5 rfl rfl ?_
    refine V_getf fl_X8_32 dX8_readsCommand_6 (hp20 hA) rfl ?_
    refine V_aload_n (i := 0) dX8_readsCommand_9 rfl rfl ?_
    refine V_getf fl_X8_210 dX8_readsCommand_10 (hp20 hA) rfl ?_
    refine V_iload_n (i := 1) dX8_readsCommand_13 rfl rfl ?_
    refine VAP_27 (j := c) dX8_readsCommand_14 hA ((ps_f (by decide) (by decide)).trans hc) (by omega) ?_
    refine V_aload_n (i := 0) dX8_readsCommand_15 rfl rfl ?_
    refine V_getf fl_X8_35 dX8_readsCommand_16 (hp20 hA) rfl ?_
    refine V_iconst (v := nI 2) dX8_readsCommand_19 (by decide) ?_
    refine V_aload_n (i := 0) dX8_readsCommand_20 rfl rfl ?_
    refine V_getf fl_X8_210 dX8_readsCommand_21 (hp20 hA) rfl ?_
    rw [show ∀ (q : Nat) (v : Int32), (pst (w3 σ 27 0 c (nI 2)) q v).1 20 0 20 = nI c from fun q v => ((ps_f (by decide) (by decide)).trans ((w3_ne (by omega)).trans hc))]
    refine V_imul dX8_readsCommand_24 ?_
    refine V_iload_n (i := 1) dX8_readsCommand_25 rfl rfl ?_
    refine V_iconst (v := 3) dX8_readsCommand_26 (by decide) ?_
    refine V_icmp_ne (tgt := 34) dX8_readsCommand_27 (by decide) (fun _ => ?_) (fun h27 => by first | exact absurd ((by decide)) h27 | exact absurd h27 ((by decide)))
    refine V_aload_n (i := 0) dX8_readsCommand_34 rfl rfl ?_
    refine V_iload_n (i := 1) dX8_readsCommand_35 rfl rfl ?_
    refine V_iconst (v := 1) dX8_readsCommand_36 (by decide) ?_
    refine V_icmp_eq (tgt := 46) dX8_readsCommand_37 (by decide) (fun h37 => by first | exact absurd h37 ((by decide)) | exact absurd ((by decide)) h37) (fun _ => ?_)
    refine V_iload_n (i := 1) dX8_readsCommand_40 rfl rfl ?_
    refine V_bipush (v := 7) dX8_readsCommand_41 (by decide) ?_
    refine V_icmp_ne (tgt := 50) dX8_readsCommand_43 (by decide) (fun _ => ?_) (fun h43 => by first | exact absurd ((by decide)) h43 | exact absurd h43 ((by decide)))
    refine V_iconst (v := 0) dX8_readsCommand_50 (by decide) ?_
    refine Cv1_1 (d := 6) cv_X8_213 dX8_readsCommand_51 (t_X8_digits hA (funext fun z => (w3_ne (by omega)).trans (congrFun ht z)) ((w3_ne (by omega)).trans hn) hn6 (by omega) (m := 1) (by decide) (by decide)) (hp20 hA) rfl rfl (Nat.le_of_ble_eq_true rfl) ⟨Nat.le_refl _, Nat.le_refl _⟩ (by decide) ⟨Nat.le_of_ble_eq_true rfl, Nat.le_of_ble_eq_true rfl⟩ ?_
    have hb1 := pNum_le (t := t) (n := n) 1 (p + 1) 0
    by_cases hd : (pNum t n 1 (p + 1) 0).1 = p + 1
    · rw [if_pos hd, if_pos hd]
      refine VAP_28 (j := 2 * c) dX8_readsCommand_54 hA (pk_mul 2 c) (by omega) ?_
      refine V_iload_n (i := 1) dX8_readsCommand_55 rfl rfl ?_
      refine V_iconst (v := 2) dX8_readsCommand_56 (by decide) ?_
      refine V_icmp_eq (tgt := 65) dX8_readsCommand_57 (by decide) (fun _ => ?_) (fun h57 => by first | exact absurd ((by decide)) h57 | exact absurd h57 ((by decide)))
      refine V_iload_n (i := 1) dX8_readsCommand_65 rfl rfl ?_
      refine V_iconst (v := 2) dX8_readsCommand_66 (by decide) ?_
      refine V_icmp_ne (tgt := 75) dX8_readsCommand_67 (by decide) (fun h67 => by first | exact absurd h67 ((by decide)) | exact absurd ((by decide)) h67) (fun _ => ?_)
      refine V_bipush (v := 42) dX8_readsCommand_70 (by decide) ?_
      refine V_goto (tgt := 77) dX8_readsCommand_72 (by decide) ?_
      refine V_istore_n (i := 2) dX8_readsCommand_77 rfl (by decide) ?_
      refine V_aload_n (i := 0) dX8_readsCommand_78 rfl rfl ?_
      refine V_iload_n (i := 2) dX8_readsCommand_79 rfl rfl ?_
      refine V_iload_n (i := 2) dX8_readsCommand_80 rfl rfl ?_
      refine Cv1_2 (d := 6) cv_X8_196 dX8_readsCommand_81 (t_X8_reads_w hA (funext fun z => (w3_ne (by omega)).trans ((w3_ne (by omega)).trans (congrFun ht z))) ((w3_ne (by omega)).trans ((w3_ne (by omega)).trans hn)) hn6 (by omega) (m1_ne (by omega))) (hp20 hA) rfl rfl (Nat.le_of_ble_eq_true rfl) ⟨Nat.le_refl _, Nat.le_refl _⟩ (by decide) ⟨Nat.le_of_ble_eq_true rfl, Nat.le_of_ble_eq_true rfl⟩ ?_
      refine V_istore_n (i := 3) dX8_readsCommand_84 rfl (by decide) ?_
      refine V_aload_n (i := 0) dX8_readsCommand_85 rfl rfl ?_
      refine V_getf fl_X8_35 dX8_readsCommand_86 (hp20 hA) rfl ?_
      refine V_iconst (v := nI 2) dX8_readsCommand_89 (by decide) ?_
      refine V_aload_n (i := 0) dX8_readsCommand_90 rfl rfl ?_
      refine V_getf fl_X8_210 dX8_readsCommand_91 (hp20 hA) rfl ?_
      rw [show ∀ (q : Nat) (v : Int32), (pst (w3 (w3 σ 27 0 c (nI 2)) 28 0 (2 * c) 0) q v).1 20 0 20 = nI c from fun q v => ((ps_f (by decide) (by decide)).trans ((w3_ne (by omega)).trans ((w3_ne (by omega)).trans hc)))]
      refine V_imul dX8_readsCommand_94 ?_
      refine V_iconst (v := nI 1) dX8_readsCommand_95 (by decide) ?_
      refine V_iadd dX8_readsCommand_96 ?_
      refine V_aload_n (i := 0) dX8_readsCommand_97 rfl rfl ?_
      refine V_iload_n (i := 1) dX8_readsCommand_98 rfl rfl ?_
      refine V_iconst (v := 5) dX8_readsCommand_99 (by decide) ?_
      refine V_icmp_ne (tgt := 107) dX8_readsCommand_100 (by decide) (fun _ => ?_) (fun h100 => by first | exact absurd ((by decide)) h100 | exact absurd h100 ((by decide)))
      refine V_iconst (v := 0) dX8_readsCommand_107 (by decide) ?_
      refine Cv1_1 (d := 6) cv_X8_213 dX8_readsCommand_108 (t_X8_digits_w0 hA (funext fun z => (w3_ne (by omega)).trans ((w3_ne (by omega)).trans (congrFun ht z))) ((w3_ne (by omega)).trans ((w3_ne (by omega)).trans hn)) hn6 (by omega) (m1_ne (by omega))) (hp20 hA) rfl rfl (Nat.le_of_ble_eq_true rfl) ⟨Nat.le_refl _, Nat.le_refl _⟩ (by decide) ⟨Nat.le_of_ble_eq_true rfl, Nat.le_of_ble_eq_true rfl⟩ ?_
      refine VAP_28 (j := 2 * c + 1) dX8_readsCommand_111 hA (show nI 2 * nI c + nI 1 = nI (2 * c + 1) from by rw [pk_mul, nI_add]) (by omega) ?_
      refine V_aload_n (i := 0) dX8_readsCommand_112 rfl rfl ?_
      refine V_dup dX8_readsCommand_113 rfl ?_
      refine V_getf fl_X8_210 dX8_readsCommand_114 (hp20 hA) rfl ?_
      refine V_iconst (v := 1) dX8_readsCommand_117 (by decide) ?_
      refine V_iadd dX8_readsCommand_118 ?_
      refine VPt (q := c + 1) fl_X8_210 dX8_readsCommand_119 hA (by rw [show ∀ (s : Sg) (x1 x2 x3 : Int32) (j1 j2 j3 q : Nat) (v : Int32), (pst (w3 (w3 (w3 s 27 0 j1 x1) 28 0 j2 x2) 28 0 j3 x3) q v).1 20 0 20 = s.1 20 0 20 from fun s x1 x2 x3 j1 j2 j3 q v => (ps_f (by decide) (by decide)).trans ((w3_ne (by omega)).trans ((w3_ne (by omega)).trans (w3_ne (by omega)))), hc]; exact nI_1 c) ?_
      refine V_vret dX8_readsCommand_122 rfl (Nat.le_of_ble_eq_true rfl) (Nat.le_of_ble_eq_true rfl) ?_
      (refine rcn (ρ := rc2 σ c 2 _ _) ?_ rc2_TR (w3_eq _ _ _ _ _) rfl; simp [pCmd, hpk, fdN, mkN, sdN, *]; done)
    · rw [if_neg hd, if_neg hd]
      refine VAP_28 (j := 2 * c) dX8_readsCommand_54 hA (pk_mul 2 c) (by omega) ?_
      by_cases hm : pMark t n (pNum t n 1 (p + 1) 0).1 (nI 42) = true
      · have hm1 : (pNum t n 1 (p + 1) 0).1 < n := by
          simp only [pMark, Bool.and_eq_true, decide_eq_true_eq] at hm
          exact hm.1
        have hm2 : ob (t (pNum t n 1 (p + 1) 0).1) 42 42 = false := by
          simp only [pMark, Bool.and_eq_true, decide_eq_true_eq] at hm
          rw [hm.2]
          decide
        refine V_iload_n (i := 1) dX8_readsCommand_55 rfl rfl ?_
        refine V_iconst (v := 2) dX8_readsCommand_56 (by decide) ?_
        refine V_icmp_eq (tgt := 65) dX8_readsCommand_57 (by decide) (fun _ => ?_) (fun h57 => by first | exact absurd ((by decide)) h57 | exact absurd h57 ((by decide)))
        refine V_iload_n (i := 1) dX8_readsCommand_65 rfl rfl ?_
        refine V_iconst (v := 2) dX8_readsCommand_66 (by decide) ?_
        refine V_icmp_ne (tgt := 75) dX8_readsCommand_67 (by decide) (fun h67 => by first | exact absurd h67 ((by decide)) | exact absurd ((by decide)) h67) (fun _ => ?_)
        refine V_bipush (v := 42) dX8_readsCommand_70 (by decide) ?_
        refine V_goto (tgt := 77) dX8_readsCommand_72 (by decide) ?_
        refine V_istore_n (i := 2) dX8_readsCommand_77 rfl (by decide) ?_
        refine V_aload_n (i := 0) dX8_readsCommand_78 rfl rfl ?_
        refine V_iload_n (i := 2) dX8_readsCommand_79 rfl rfl ?_
        refine V_iload_n (i := 2) dX8_readsCommand_80 rfl rfl ?_
        refine Cv1_2 (d := 6) cv_X8_196 dX8_readsCommand_81 (t_X8_reads_y hA (funext fun z => (w3_ne (by omega)).trans ((w3_ne (by omega)).trans (congrFun ht z))) ((w3_ne (by omega)).trans ((w3_ne (by omega)).trans hn)) hn6 (by omega) hm1 hm2) (hp20 hA) rfl rfl (Nat.le_of_ble_eq_true rfl) ⟨Nat.le_refl _, Nat.le_refl _⟩ (by decide) ⟨Nat.le_of_ble_eq_true rfl, Nat.le_of_ble_eq_true rfl⟩ ?_
        refine V_istore_n (i := 3) dX8_readsCommand_84 rfl (by decide) ?_
        refine V_aload_n (i := 0) dX8_readsCommand_85 rfl rfl ?_
        refine V_getf fl_X8_35 dX8_readsCommand_86 (hp20 hA) rfl ?_
        refine V_iconst (v := nI 2) dX8_readsCommand_89 (by decide) ?_
        refine V_aload_n (i := 0) dX8_readsCommand_90 rfl rfl ?_
        refine V_getf fl_X8_210 dX8_readsCommand_91 (hp20 hA) rfl ?_
        rw [show ∀ (q : Nat) (v : Int32), (pst (w3 (w3 σ 27 0 c (nI 2)) 28 0 (2 * c) (pNum t n 1 (p + 1) 0).2) q v).1 20 0 20 = nI c from fun q v => ((ps_f (by decide) (by decide)).trans ((w3_ne (by omega)).trans ((w3_ne (by omega)).trans hc)))]
        refine V_imul dX8_readsCommand_94 ?_
        refine V_iconst (v := nI 1) dX8_readsCommand_95 (by decide) ?_
        refine V_iadd dX8_readsCommand_96 ?_
        refine V_aload_n (i := 0) dX8_readsCommand_97 rfl rfl ?_
        refine V_iload_n (i := 1) dX8_readsCommand_98 rfl rfl ?_
        refine V_iconst (v := 5) dX8_readsCommand_99 (by decide) ?_
        refine V_icmp_ne (tgt := 107) dX8_readsCommand_100 (by decide) (fun _ => ?_) (fun h100 => by first | exact absurd ((by decide)) h100 | exact absurd h100 ((by decide)))
        refine V_iconst (v := 0) dX8_readsCommand_107 (by decide) ?_
        refine Cv1_1 (d := 6) cv_X8_213 dX8_readsCommand_108 (t_X8_digits hA (funext fun z => (w3_ne (by omega)).trans ((w3_ne (by omega)).trans (congrFun ht z))) ((w3_ne (by omega)).trans ((w3_ne (by omega)).trans hn)) hn6 (by omega) (m := 1) (by decide) (by decide)) (hp20 hA) rfl rfl (Nat.le_of_ble_eq_true rfl) ⟨Nat.le_refl _, Nat.le_refl _⟩ (by decide) ⟨Nat.le_of_ble_eq_true rfl, Nat.le_of_ble_eq_true rfl⟩ ?_
        by_cases hd2 : (pNum t n 1 ((pNum t n 1 (p + 1) 0).1 + 1) 0).1 = (pNum t n 1 (p + 1) 0).1 + 1
        · rw [if_pos hd2, if_pos hd2]
          refine VAP_28 (j := 2 * c + 1) dX8_readsCommand_111 hA (show nI 2 * nI c + nI 1 = nI (2 * c + 1) from by rw [pk_mul, nI_add]) (by omega) ?_
          refine V_aload_n (i := 0) dX8_readsCommand_112 rfl rfl ?_
          refine V_dup dX8_readsCommand_113 rfl ?_
          refine V_getf fl_X8_210 dX8_readsCommand_114 (hp20 hA) rfl ?_
          refine V_iconst (v := 1) dX8_readsCommand_117 (by decide) ?_
          refine V_iadd dX8_readsCommand_118 ?_
          refine VPt (q := c + 1) fl_X8_210 dX8_readsCommand_119 hA (by rw [show ∀ (s : Sg) (x1 x2 x3 : Int32) (j1 j2 j3 q : Nat) (v : Int32), (pst (w3 (w3 (w3 s 27 0 j1 x1) 28 0 j2 x2) 28 0 j3 x3) q v).1 20 0 20 = s.1 20 0 20 from fun s x1 x2 x3 j1 j2 j3 q v => (ps_f (by decide) (by decide)).trans ((w3_ne (by omega)).trans ((w3_ne (by omega)).trans (w3_ne (by omega)))), hc]; exact nI_1 c) ?_
          refine V_vret dX8_readsCommand_122 rfl (Nat.le_of_ble_eq_true rfl) (Nat.le_of_ble_eq_true rfl) ?_
          first
            | (refine rcn (ρ := rc2 σ c 2 _ _) ?_ rc2_TR (w3_eq _ _ _ _ _) rfl; simp [pCmd, hpk, fdN, mkN, sdN, *]; done)
            | (refine rcy2 (k := 2) ?_ (by decide); simp [pCmd, hpk, fdN, mkN, sdN, *]; done)
        · rw [if_neg hd2, if_neg hd2]
          refine VAP_28 (j := 2 * c + 1) dX8_readsCommand_111 hA (show nI 2 * nI c + nI 1 = nI (2 * c + 1) from by rw [pk_mul, nI_add]) (by omega) ?_
          refine V_aload_n (i := 0) dX8_readsCommand_112 rfl rfl ?_
          refine V_dup dX8_readsCommand_113 rfl ?_
          refine V_getf fl_X8_210 dX8_readsCommand_114 (hp20 hA) rfl ?_
          refine V_iconst (v := 1) dX8_readsCommand_117 (by decide) ?_
          refine V_iadd dX8_readsCommand_118 ?_
          refine VPt (q := c + 1) fl_X8_210 dX8_readsCommand_119 hA (by rw [show ∀ (s : Sg) (x1 x2 x3 : Int32) (j1 j2 j3 q : Nat) (v : Int32), (pst (w3 (w3 (w3 s 27 0 j1 x1) 28 0 j2 x2) 28 0 j3 x3) q v).1 20 0 20 = s.1 20 0 20 from fun s x1 x2 x3 j1 j2 j3 q v => (ps_f (by decide) (by decide)).trans ((w3_ne (by omega)).trans ((w3_ne (by omega)).trans (w3_ne (by omega)))), hc]; exact nI_1 c) ?_
          refine V_vret dX8_readsCommand_122 rfl (Nat.le_of_ble_eq_true rfl) (Nat.le_of_ble_eq_true rfl) ?_
          first
            | (refine rcn (ρ := rc2 σ c 2 _ _) ?_ rc2_TR (w3_eq _ _ _ _ _) rfl; simp [pCmd, hpk, fdN, mkN, sdN, *]; done)
            | (refine rcy2 (k := 2) ?_ (by decide); simp [pCmd, hpk, fdN, mkN, sdN, *]; done)
      · replace hm := Bool.eq_false_iff.mpr hm
        have hm2 : ob (sgn t n (pNum t n 1 (p + 1) 0).1) 42 42 = true := by
          by_cases z : (pNum t n 1 (p + 1) 0).1 < n
          · have z2 : ¬ t (pNum t n 1 (p + 1) 0).1 = 42 := fun e => by
              rw [pMark, decide_eq_true z, e] at hm
              exact absurd hm (by decide)
            rw [sgn, if_pos z]
            exact ob_ne z2
          · rw [sgn, if_neg z]
            decide
        refine V_iload_n (i := 1) dX8_readsCommand_55 rfl rfl ?_
        refine V_iconst (v := 2) dX8_readsCommand_56 (by decide) ?_
        refine V_icmp_eq (tgt := 65) dX8_readsCommand_57 (by decide) (fun _ => ?_) (fun h57 => by first | exact absurd ((by decide)) h57 | exact absurd h57 ((by decide)))
        refine V_iload_n (i := 1) dX8_readsCommand_65 rfl rfl ?_
        refine V_iconst (v := 2) dX8_readsCommand_66 (by decide) ?_
        refine V_icmp_ne (tgt := 75) dX8_readsCommand_67 (by decide) (fun h67 => by first | exact absurd h67 ((by decide)) | exact absurd ((by decide)) h67) (fun _ => ?_)
        refine V_bipush (v := 42) dX8_readsCommand_70 (by decide) ?_
        refine V_goto (tgt := 77) dX8_readsCommand_72 (by decide) ?_
        refine V_istore_n (i := 2) dX8_readsCommand_77 rfl (by decide) ?_
        refine V_aload_n (i := 0) dX8_readsCommand_78 rfl rfl ?_
        refine V_iload_n (i := 2) dX8_readsCommand_79 rfl rfl ?_
        refine V_iload_n (i := 2) dX8_readsCommand_80 rfl rfl ?_
        refine Cv1_2 (d := 6) cv_X8_196 dX8_readsCommand_81 (t_X8_reads_n hA (funext fun z => (w3_ne (by omega)).trans ((w3_ne (by omega)).trans (congrFun ht z))) ((w3_ne (by omega)).trans ((w3_ne (by omega)).trans hn)) hn6 (by omega) hm2) (hp20 hA) rfl rfl (Nat.le_of_ble_eq_true rfl) ⟨Nat.le_refl _, Nat.le_refl _⟩ (by decide) ⟨Nat.le_of_ble_eq_true rfl, Nat.le_of_ble_eq_true rfl⟩ ?_
        refine V_istore_n (i := 3) dX8_readsCommand_84 rfl (by decide) ?_
        refine V_aload_n (i := 0) dX8_readsCommand_85 rfl rfl ?_
        refine V_getf fl_X8_35 dX8_readsCommand_86 (hp20 hA) rfl ?_
        refine V_iconst (v := nI 2) dX8_readsCommand_89 (by decide) ?_
        refine V_aload_n (i := 0) dX8_readsCommand_90 rfl rfl ?_
        refine V_getf fl_X8_210 dX8_readsCommand_91 (hp20 hA) rfl ?_
        rw [show ∀ (q : Nat) (v : Int32), (pst (w3 (w3 σ 27 0 c (nI 2)) 28 0 (2 * c) (pNum t n 1 (p + 1) 0).2) q v).1 20 0 20 = nI c from fun q v => ((ps_f (by decide) (by decide)).trans ((w3_ne (by omega)).trans ((w3_ne (by omega)).trans hc)))]
        refine V_imul dX8_readsCommand_94 ?_
        refine V_iconst (v := nI 1) dX8_readsCommand_95 (by decide) ?_
        refine V_iadd dX8_readsCommand_96 ?_
        refine V_aload_n (i := 0) dX8_readsCommand_97 rfl rfl ?_
        refine V_iload_n (i := 1) dX8_readsCommand_98 rfl rfl ?_
        refine V_iconst (v := 5) dX8_readsCommand_99 (by decide) ?_
        refine V_icmp_ne (tgt := 107) dX8_readsCommand_100 (by decide) (fun _ => ?_) (fun h100 => by first | exact absurd ((by decide)) h100 | exact absurd h100 ((by decide)))
        refine V_iconst (v := 0) dX8_readsCommand_107 (by decide) ?_
        refine Cv1_1 (d := 6) cv_X8_213 dX8_readsCommand_108 (t_X8_digits_w0 hA (funext fun z => (w3_ne (by omega)).trans ((w3_ne (by omega)).trans (congrFun ht z))) ((w3_ne (by omega)).trans ((w3_ne (by omega)).trans hn)) hn6 (by omega) (m1_ne (by omega))) (hp20 hA) rfl rfl (Nat.le_of_ble_eq_true rfl) ⟨Nat.le_refl _, Nat.le_refl _⟩ (by decide) ⟨Nat.le_of_ble_eq_true rfl, Nat.le_of_ble_eq_true rfl⟩ ?_
        refine VAP_28 (j := 2 * c + 1) dX8_readsCommand_111 hA (show nI 2 * nI c + nI 1 = nI (2 * c + 1) from by rw [pk_mul, nI_add]) (by omega) ?_
        refine V_aload_n (i := 0) dX8_readsCommand_112 rfl rfl ?_
        refine V_dup dX8_readsCommand_113 rfl ?_
        refine V_getf fl_X8_210 dX8_readsCommand_114 (hp20 hA) rfl ?_
        refine V_iconst (v := 1) dX8_readsCommand_117 (by decide) ?_
        refine V_iadd dX8_readsCommand_118 ?_
        refine VPt (q := c + 1) fl_X8_210 dX8_readsCommand_119 hA (by rw [show ∀ (s : Sg) (x1 x2 x3 : Int32) (j1 j2 j3 q : Nat) (v : Int32), (pst (w3 (w3 (w3 s 27 0 j1 x1) 28 0 j2 x2) 28 0 j3 x3) q v).1 20 0 20 = s.1 20 0 20 from fun s x1 x2 x3 j1 j2 j3 q v => (ps_f (by decide) (by decide)).trans ((w3_ne (by omega)).trans ((w3_ne (by omega)).trans (w3_ne (by omega)))), hc]; exact nI_1 c) ?_
        refine V_vret dX8_readsCommand_122 rfl (Nat.le_of_ble_eq_true rfl) (Nat.le_of_ble_eq_true rfl) ?_
        (refine rcn (ρ := rc2 σ c 2 _ _) ?_ rc2_TR (w3_eq _ _ _ _ _) rfl; simp [pCmd, hpk, fdN, mkN, sdN, *]; done)
  · have hpk : pK t n p = 3 := pK_sgn.trans hk
    refine V_aload_n (i := 0) dX8_readsCommand_0 rfl rfl ?_
    refine Cv1_0 (d := 6) cv_X8_207 dX8_readsCommand_1 (t_X8_kind hA ht hn hn6 (by omega)) (hp20 hA) rfl rfl (Nat.le_of_ble_eq_true rfl) ⟨Nat.le_refl _, Nat.le_refl _⟩ (by decide) ⟨Nat.le_of_ble_eq_true rfl, Nat.le_of_ble_eq_true rfl⟩ ?_
    rw [show (if kIx (sgn t n p) = 8 then 0 else kIx (sgn t n p)) = 3 from by rw [hk]; rfl, show (if kIx (sgn t n p) = 8 then pst σ p (nI p) else pst σ (p + 1) (-1)) = pst σ (p + 1) (-1) from by rw [hk]; rfl]
    refine V_istore_n (i := 1) dX8_readsCommand_4 rfl (by decide) ?_
    refine V_aload_n (i := 0) dX8_readsCommand_5 rfl rfl ?_
    refine V_getf fl_X8_32 dX8_readsCommand_6 (hp20 hA) rfl ?_
    refine V_aload_n (i := 0) dX8_readsCommand_9 rfl rfl ?_
    refine V_getf fl_X8_210 dX8_readsCommand_10 (hp20 hA) rfl ?_
    refine V_iload_n (i := 1) dX8_readsCommand_13 rfl rfl ?_
    refine VAP_27 (j := c) dX8_readsCommand_14 hA ((ps_f (by decide) (by decide)).trans hc) (by omega) ?_
    refine V_aload_n (i := 0) dX8_readsCommand_15 rfl rfl ?_
    refine V_getf fl_X8_35 dX8_readsCommand_16 (hp20 hA) rfl ?_
    refine V_iconst (v := nI 2) dX8_readsCommand_19 (by decide) ?_
    refine V_aload_n (i := 0) dX8_readsCommand_20 rfl rfl ?_
    refine V_getf fl_X8_210 dX8_readsCommand_21 (hp20 hA) rfl ?_
    rw [show ∀ (q : Nat) (v : Int32), (pst (w3 σ 27 0 c (nI 3)) q v).1 20 0 20 = nI c from fun q v => ((ps_f (by decide) (by decide)).trans ((w3_ne (by omega)).trans hc))]
    refine V_imul dX8_readsCommand_24 ?_
    refine V_iload_n (i := 1) dX8_readsCommand_25 rfl rfl ?_
    refine V_iconst (v := 3) dX8_readsCommand_26 (by decide) ?_
    refine V_icmp_ne (tgt := 34) dX8_readsCommand_27 (by decide) (fun h27 => by first | exact absurd h27 ((by decide)) | exact absurd ((by decide)) h27) (fun _ => ?_)
    refine V_iconst (v := 0) dX8_readsCommand_30 (by decide) ?_
    refine V_goto (tgt := 54) dX8_readsCommand_31 (by decide) ?_
    refine VAP_28 (j := 2 * c) dX8_readsCommand_54 hA (pk_mul 2 c) (by omega) ?_
    refine V_iload_n (i := 1) dX8_readsCommand_55 rfl rfl ?_
    refine V_iconst (v := 2) dX8_readsCommand_56 (by decide) ?_
    refine V_icmp_eq (tgt := 65) dX8_readsCommand_57 (by decide) (fun h57 => by first | exact absurd h57 ((by decide)) | exact absurd ((by decide)) h57) (fun _ => ?_)
    refine V_iload_n (i := 1) dX8_readsCommand_60 rfl rfl ?_
    refine V_iconst (v := 5) dX8_readsCommand_61 (by decide) ?_
    refine V_icmp_ne (tgt := 112) dX8_readsCommand_62 (by decide) (fun _ => ?_) (fun h62 => by first | exact absurd ((by decide)) h62 | exact absurd h62 ((by decide)))
    refine V_aload_n (i := 0) dX8_readsCommand_112 rfl rfl ?_
    refine V_dup dX8_readsCommand_113 rfl ?_
    refine V_getf fl_X8_210 dX8_readsCommand_114 (hp20 hA) rfl ?_
    refine V_iconst (v := 1) dX8_readsCommand_117 (by decide) ?_
    refine V_iadd dX8_readsCommand_118 ?_
    refine VPt (q := c + 1) fl_X8_210 dX8_readsCommand_119 hA (by rw [show ∀ (s : Sg) (x1 x2 : Int32) (j1 j2 q : Nat) (v : Int32), (pst (w3 (w3 s 27 0 j1 x1) 28 0 j2 x2) q v).1 20 0 20 = s.1 20 0 20 from fun s x1 x2 j1 j2 q v => (ps_f (by decide) (by decide)).trans ((w3_ne (by omega)).trans (w3_ne (by omega))), hc]; exact nI_1 c) ?_
    refine V_vret dX8_readsCommand_122 rfl (Nat.le_of_ble_eq_true rfl) (Nat.le_of_ble_eq_true rfl) ?_
    (refine rcy1 (k := 3) ?_ (by decide) (by decide); simp [pCmd, hpk, fdN, mkN, sdN, pNum]; done)
  · have hpk : pK t n p = 4 := pK_sgn.trans hk
    refine V_aload_n (i := 0) dX8_readsCommand_0 rfl rfl ?_
    refine Cv1_0 (d := 6) cv_X8_207 dX8_readsCommand_1 (t_X8_kind hA ht hn hn6 (by omega)) (hp20 hA) rfl rfl (Nat.le_of_ble_eq_true rfl) ⟨Nat.le_refl _, Nat.le_refl _⟩ (by decide) ⟨Nat.le_of_ble_eq_true rfl, Nat.le_of_ble_eq_true rfl⟩ ?_
    rw [show (if kIx (sgn t n p) = 8 then 0 else kIx (sgn t n p)) = 4 from by rw [hk]; rfl, show (if kIx (sgn t n p) = 8 then pst σ p (nI p) else pst σ (p + 1) (-1)) = pst σ (p + 1) (-1) from by rw [hk]; rfl]
    refine V_istore_n (i := 1) dX8_readsCommand_4 rfl (by decide) ?_
    refine V_aload_n (i := 0) dX8_readsCommand_5 rfl rfl ?_
    refine V_getf fl_X8_32 dX8_readsCommand_6 (hp20 hA) rfl ?_
    refine V_aload_n (i := 0) dX8_readsCommand_9 rfl rfl ?_
    refine V_getf fl_X8_210 dX8_readsCommand_10 (hp20 hA) rfl ?_
    refine V_iload_n (i := 1) dX8_readsCommand_13 rfl rfl ?_
    refine VAP_27 (j := c) dX8_readsCommand_14 hA ((ps_f (by decide) (by decide)).trans hc) (by omega) ?_
    refine V_aload_n (i := 0) dX8_readsCommand_15 rfl rfl ?_
    refine V_getf fl_X8_35 dX8_readsCommand_16 (hp20 hA) rfl ?_
    refine V_iconst (v := nI 2) dX8_readsCommand_19 (by decide) ?_
    refine V_aload_n (i := 0) dX8_readsCommand_20 rfl rfl ?_
    refine V_getf fl_X8_210 dX8_readsCommand_21 (hp20 hA) rfl ?_
    rw [show ∀ (q : Nat) (v : Int32), (pst (w3 σ 27 0 c (nI 4)) q v).1 20 0 20 = nI c from fun q v => ((ps_f (by decide) (by decide)).trans ((w3_ne (by omega)).trans hc))]
    refine V_imul dX8_readsCommand_24 ?_
    refine V_iload_n (i := 1) dX8_readsCommand_25 rfl rfl ?_
    refine V_iconst (v := 3) dX8_readsCommand_26 (by decide) ?_
    refine V_icmp_ne (tgt := 34) dX8_readsCommand_27 (by decide) (fun _ => ?_) (fun h27 => by first | exact absurd ((by decide)) h27 | exact absurd h27 ((by decide)))
    refine V_aload_n (i := 0) dX8_readsCommand_34 rfl rfl ?_
    refine V_iload_n (i := 1) dX8_readsCommand_35 rfl rfl ?_
    refine V_iconst (v := 1) dX8_readsCommand_36 (by decide) ?_
    refine V_icmp_eq (tgt := 46) dX8_readsCommand_37 (by decide) (fun h37 => by first | exact absurd h37 ((by decide)) | exact absurd ((by decide)) h37) (fun _ => ?_)
    refine V_iload_n (i := 1) dX8_readsCommand_40 rfl rfl ?_
    refine V_bipush (v := 7) dX8_readsCommand_41 (by decide) ?_
    refine V_icmp_ne (tgt := 50) dX8_readsCommand_43 (by decide) (fun _ => ?_) (fun h43 => by first | exact absurd ((by decide)) h43 | exact absurd h43 ((by decide)))
    refine V_iconst (v := 0) dX8_readsCommand_50 (by decide) ?_
    refine Cv1_1 (d := 6) cv_X8_213 dX8_readsCommand_51 (t_X8_digits hA (funext fun z => (w3_ne (by omega)).trans (congrFun ht z)) ((w3_ne (by omega)).trans hn) hn6 (by omega) (m := 1) (by decide) (by decide)) (hp20 hA) rfl rfl (Nat.le_of_ble_eq_true rfl) ⟨Nat.le_refl _, Nat.le_refl _⟩ (by decide) ⟨Nat.le_of_ble_eq_true rfl, Nat.le_of_ble_eq_true rfl⟩ ?_
    have hb1 := pNum_le (t := t) (n := n) 1 (p + 1) 0
    by_cases hd : (pNum t n 1 (p + 1) 0).1 = p + 1
    · rw [if_pos hd, if_pos hd]
      refine VAP_28 (j := 2 * c) dX8_readsCommand_54 hA (pk_mul 2 c) (by omega) ?_
      refine V_iload_n (i := 1) dX8_readsCommand_55 rfl rfl ?_
      refine V_iconst (v := 2) dX8_readsCommand_56 (by decide) ?_
      refine V_icmp_eq (tgt := 65) dX8_readsCommand_57 (by decide) (fun h57 => by first | exact absurd h57 ((by decide)) | exact absurd ((by decide)) h57) (fun _ => ?_)
      refine V_iload_n (i := 1) dX8_readsCommand_60 rfl rfl ?_
      refine V_iconst (v := 5) dX8_readsCommand_61 (by decide) ?_
      refine V_icmp_ne (tgt := 112) dX8_readsCommand_62 (by decide) (fun _ => ?_) (fun h62 => by first | exact absurd ((by decide)) h62 | exact absurd h62 ((by decide)))
      refine V_aload_n (i := 0) dX8_readsCommand_112 rfl rfl ?_
      refine V_dup dX8_readsCommand_113 rfl ?_
      refine V_getf fl_X8_210 dX8_readsCommand_114 (hp20 hA) rfl ?_
      refine V_iconst (v := 1) dX8_readsCommand_117 (by decide) ?_
      refine V_iadd dX8_readsCommand_118 ?_
      refine VPt (q := c + 1) fl_X8_210 dX8_readsCommand_119 hA (by rw [show ∀ (s : Sg) (x1 x2 : Int32) (j1 j2 q : Nat) (v : Int32), (pst (w3 (w3 s 27 0 j1 x1) 28 0 j2 x2) q v).1 20 0 20 = s.1 20 0 20 from fun s x1 x2 j1 j2 q v => (ps_f (by decide) (by decide)).trans ((w3_ne (by omega)).trans (w3_ne (by omega))), hc]; exact nI_1 c) ?_
      refine V_vret dX8_readsCommand_122 rfl (Nat.le_of_ble_eq_true rfl) (Nat.le_of_ble_eq_true rfl) ?_
      first
        | (refine rcn (ρ := rc1 σ c 4 _) ?_ rc1_TR (w3_eq _ _ _ _ _) rfl; simp [pCmd, hpk, fdN, mkN, sdN, *]; done)
        | (refine rcy1 (k := 4) ?_ (by decide) (by decide); simp [pCmd, hpk, fdN, mkN, sdN, *]; done)
    · rw [if_neg hd, if_neg hd]
      refine VAP_28 (j := 2 * c) dX8_readsCommand_54 hA (pk_mul 2 c) (by omega) ?_
      refine V_iload_n (i := 1) dX8_readsCommand_55 rfl rfl ?_
      refine V_iconst (v := 2) dX8_readsCommand_56 (by decide) ?_
      refine V_icmp_eq (tgt := 65) dX8_readsCommand_57 (by decide) (fun h57 => by first | exact absurd h57 ((by decide)) | exact absurd ((by decide)) h57) (fun _ => ?_)
      refine V_iload_n (i := 1) dX8_readsCommand_60 rfl rfl ?_
      refine V_iconst (v := 5) dX8_readsCommand_61 (by decide) ?_
      refine V_icmp_ne (tgt := 112) dX8_readsCommand_62 (by decide) (fun _ => ?_) (fun h62 => by first | exact absurd ((by decide)) h62 | exact absurd h62 ((by decide)))
      refine V_aload_n (i := 0) dX8_readsCommand_112 rfl rfl ?_
      refine V_dup dX8_readsCommand_113 rfl ?_
      refine V_getf fl_X8_210 dX8_readsCommand_114 (hp20 hA) rfl ?_
      refine V_iconst (v := 1) dX8_readsCommand_117 (by decide) ?_
      refine V_iadd dX8_readsCommand_118 ?_
      refine VPt (q := c + 1) fl_X8_210 dX8_readsCommand_119 hA (by rw [show ∀ (s : Sg) (x1 x2 : Int32) (j1 j2 q : Nat) (v : Int32), (pst (w3 (w3 s 27 0 j1 x1) 28 0 j2 x2) q v).1 20 0 20 = s.1 20 0 20 from fun s x1 x2 j1 j2 q v => (ps_f (by decide) (by decide)).trans ((w3_ne (by omega)).trans (w3_ne (by omega))), hc]; exact nI_1 c) ?_
      refine V_vret dX8_readsCommand_122 rfl (Nat.le_of_ble_eq_true rfl) (Nat.le_of_ble_eq_true rfl) ?_
      first
        | (refine rcn (ρ := rc1 σ c 4 _) ?_ rc1_TR (w3_eq _ _ _ _ _) rfl; simp [pCmd, hpk, fdN, mkN, sdN, *]; done)
        | (refine rcy1 (k := 4) ?_ (by decide) (by decide); simp [pCmd, hpk, fdN, mkN, sdN, *]; done)
  · have hpk : pK t n p = 5 := pK_sgn.trans hk
    refine V_aload_n (i := 0) dX8_readsCommand_0 rfl rfl ?_
    refine Cv1_0 (d := 6) cv_X8_207 dX8_readsCommand_1 (t_X8_kind hA ht hn hn6 (by omega)) (hp20 hA) rfl rfl (Nat.le_of_ble_eq_true rfl) ⟨Nat.le_refl _, Nat.le_refl _⟩ (by decide) ⟨Nat.le_of_ble_eq_true rfl, Nat.le_of_ble_eq_true rfl⟩ ?_
    rw [show (if kIx (sgn t n p) = 8 then 0 else kIx (sgn t n p)) = 5 from by rw [hk]; rfl, show (if kIx (sgn t n p) = 8 then pst σ p (nI p) else pst σ (p + 1) (-1)) = pst σ (p + 1) (-1) from by rw [hk]; rfl]
    refine V_istore_n (i := 1) dX8_readsCommand_4 rfl (by decide) ?_
    refine V_aload_n (i := 0) dX8_readsCommand_5 rfl rfl ?_
    refine V_getf fl_X8_32 dX8_readsCommand_6 (hp20 hA) rfl ?_
    refine V_aload_n (i := 0) dX8_readsCommand_9 rfl rfl ?_
    refine V_getf fl_X8_210 dX8_readsCommand_10 (hp20 hA) rfl ?_
    refine V_iload_n (i := 1) dX8_readsCommand_13 rfl rfl ?_
    refine VAP_27 (j := c) dX8_readsCommand_14 hA ((ps_f (by decide) (by decide)).trans hc) (by omega) ?_
    refine V_aload_n (i := 0) dX8_readsCommand_15 rfl rfl ?_
    refine V_getf fl_X8_35 dX8_readsCommand_16 (hp20 hA) rfl ?_
    refine V_iconst (v := nI 2) dX8_readsCommand_19 (by decide) ?_
    refine V_aload_n (i := 0) dX8_readsCommand_20 rfl rfl ?_
    refine V_getf fl_X8_210 dX8_readsCommand_21 (hp20 hA) rfl ?_
    rw [show ∀ (q : Nat) (v : Int32), (pst (w3 σ 27 0 c (nI 5)) q v).1 20 0 20 = nI c from fun q v => ((ps_f (by decide) (by decide)).trans ((w3_ne (by omega)).trans hc))]
    refine V_imul dX8_readsCommand_24 ?_
    refine V_iload_n (i := 1) dX8_readsCommand_25 rfl rfl ?_
    refine V_iconst (v := 3) dX8_readsCommand_26 (by decide) ?_
    refine V_icmp_ne (tgt := 34) dX8_readsCommand_27 (by decide) (fun _ => ?_) (fun h27 => by first | exact absurd ((by decide)) h27 | exact absurd h27 ((by decide)))
    refine V_aload_n (i := 0) dX8_readsCommand_34 rfl rfl ?_
    refine V_iload_n (i := 1) dX8_readsCommand_35 rfl rfl ?_
    refine V_iconst (v := 1) dX8_readsCommand_36 (by decide) ?_
    refine V_icmp_eq (tgt := 46) dX8_readsCommand_37 (by decide) (fun h37 => by first | exact absurd h37 ((by decide)) | exact absurd ((by decide)) h37) (fun _ => ?_)
    refine V_iload_n (i := 1) dX8_readsCommand_40 rfl rfl ?_
    refine V_bipush (v := 7) dX8_readsCommand_41 (by decide) ?_
    refine V_icmp_ne (tgt := 50) dX8_readsCommand_43 (by decide) (fun _ => ?_) (fun h43 => by first | exact absurd ((by decide)) h43 | exact absurd h43 ((by decide)))
    refine V_iconst (v := 0) dX8_readsCommand_50 (by decide) ?_
    refine Cv1_1 (d := 6) cv_X8_213 dX8_readsCommand_51 (t_X8_digits hA (funext fun z => (w3_ne (by omega)).trans (congrFun ht z)) ((w3_ne (by omega)).trans hn) hn6 (by omega) (m := 1) (by decide) (by decide)) (hp20 hA) rfl rfl (Nat.le_of_ble_eq_true rfl) ⟨Nat.le_refl _, Nat.le_refl _⟩ (by decide) ⟨Nat.le_of_ble_eq_true rfl, Nat.le_of_ble_eq_true rfl⟩ ?_
    have hb1 := pNum_le (t := t) (n := n) 1 (p + 1) 0
    by_cases hd : (pNum t n 1 (p + 1) 0).1 = p + 1
    · rw [if_pos hd, if_pos hd]
      refine VAP_28 (j := 2 * c) dX8_readsCommand_54 hA (pk_mul 2 c) (by omega) ?_
      refine V_iload_n (i := 1) dX8_readsCommand_55 rfl rfl ?_
      refine V_iconst (v := 2) dX8_readsCommand_56 (by decide) ?_
      refine V_icmp_eq (tgt := 65) dX8_readsCommand_57 (by decide) (fun h57 => by first | exact absurd h57 ((by decide)) | exact absurd ((by decide)) h57) (fun _ => ?_)
      refine V_iload_n (i := 1) dX8_readsCommand_60 rfl rfl ?_
      refine V_iconst (v := 5) dX8_readsCommand_61 (by decide) ?_
      refine V_icmp_ne (tgt := 112) dX8_readsCommand_62 (by decide) (fun h62 => by first | exact absurd h62 ((by decide)) | exact absurd ((by decide)) h62) (fun _ => ?_)
      refine V_iload_n (i := 1) dX8_readsCommand_65 rfl rfl ?_
      refine V_iconst (v := 2) dX8_readsCommand_66 (by decide) ?_
      refine V_icmp_ne (tgt := 75) dX8_readsCommand_67 (by decide) (fun _ => ?_) (fun h67 => by first | exact absurd ((by decide)) h67 | exact absurd h67 ((by decide)))
      refine V_bipush (v := 61) dX8_readsCommand_75 (by decide) ?_
      refine V_istore_n (i := 2) dX8_readsCommand_77 rfl (by decide) ?_
      refine V_aload_n (i := 0) dX8_readsCommand_78 rfl rfl ?_
      refine V_iload_n (i := 2) dX8_readsCommand_79 rfl rfl ?_
      refine V_iload_n (i := 2) dX8_readsCommand_80 rfl rfl ?_
      refine Cv1_2 (d := 6) cv_X8_196 dX8_readsCommand_81 (t_X8_reads_w hA (funext fun z => (w3_ne (by omega)).trans ((w3_ne (by omega)).trans (congrFun ht z))) ((w3_ne (by omega)).trans ((w3_ne (by omega)).trans hn)) hn6 (by omega) (m1_ne (by omega))) (hp20 hA) rfl rfl (Nat.le_of_ble_eq_true rfl) ⟨Nat.le_refl _, Nat.le_refl _⟩ (by decide) ⟨Nat.le_of_ble_eq_true rfl, Nat.le_of_ble_eq_true rfl⟩ ?_
      refine V_istore_n (i := 3) dX8_readsCommand_84 rfl (by decide) ?_
      refine V_aload_n (i := 0) dX8_readsCommand_85 rfl rfl ?_
      refine V_getf fl_X8_35 dX8_readsCommand_86 (hp20 hA) rfl ?_
      refine V_iconst (v := nI 2) dX8_readsCommand_89 (by decide) ?_
      refine V_aload_n (i := 0) dX8_readsCommand_90 rfl rfl ?_
      refine V_getf fl_X8_210 dX8_readsCommand_91 (hp20 hA) rfl ?_
      rw [show ∀ (q : Nat) (v : Int32), (pst (w3 (w3 σ 27 0 c (nI 5)) 28 0 (2 * c) 0) q v).1 20 0 20 = nI c from fun q v => ((ps_f (by decide) (by decide)).trans ((w3_ne (by omega)).trans ((w3_ne (by omega)).trans hc)))]
      refine V_imul dX8_readsCommand_94 ?_
      refine V_iconst (v := nI 1) dX8_readsCommand_95 (by decide) ?_
      refine V_iadd dX8_readsCommand_96 ?_
      refine V_aload_n (i := 0) dX8_readsCommand_97 rfl rfl ?_
      refine V_iload_n (i := 1) dX8_readsCommand_98 rfl rfl ?_
      refine V_iconst (v := 5) dX8_readsCommand_99 (by decide) ?_
      refine V_icmp_ne (tgt := 107) dX8_readsCommand_100 (by decide) (fun h100 => by first | exact absurd h100 ((by decide)) | exact absurd ((by decide)) h100) (fun _ => ?_)
      refine V_iconst (v := 1) dX8_readsCommand_103 (by decide) ?_
      refine V_goto (tgt := 108) dX8_readsCommand_104 (by decide) ?_
      refine Cv1_1 (d := 6) cv_X8_213 dX8_readsCommand_108 (t_X8_digits_w1 hA (funext fun z => (w3_ne (by omega)).trans ((w3_ne (by omega)).trans (congrFun ht z))) ((w3_ne (by omega)).trans ((w3_ne (by omega)).trans hn)) hn6 (by omega) (m1_ne (by omega))) (hp20 hA) rfl rfl (Nat.le_of_ble_eq_true rfl) ⟨Nat.le_refl _, Nat.le_refl _⟩ (by decide) ⟨Nat.le_of_ble_eq_true rfl, Nat.le_of_ble_eq_true rfl⟩ ?_
      refine VAP_28 (j := 2 * c + 1) dX8_readsCommand_111 hA (show nI 2 * nI c + nI 1 = nI (2 * c + 1) from by rw [pk_mul, nI_add]) (by omega) ?_
      refine V_aload_n (i := 0) dX8_readsCommand_112 rfl rfl ?_
      refine V_dup dX8_readsCommand_113 rfl ?_
      refine V_getf fl_X8_210 dX8_readsCommand_114 (hp20 hA) rfl ?_
      refine V_iconst (v := 1) dX8_readsCommand_117 (by decide) ?_
      refine V_iadd dX8_readsCommand_118 ?_
      refine VPt (q := c + 1) fl_X8_210 dX8_readsCommand_119 hA (by rw [show ∀ (s : Sg) (x1 x2 x3 : Int32) (j1 j2 j3 q : Nat) (v : Int32), (pst (w3 (w3 (w3 s 27 0 j1 x1) 28 0 j2 x2) 28 0 j3 x3) q v).1 20 0 20 = s.1 20 0 20 from fun s x1 x2 x3 j1 j2 j3 q v => (ps_f (by decide) (by decide)).trans ((w3_ne (by omega)).trans ((w3_ne (by omega)).trans (w3_ne (by omega)))), hc]; exact nI_1 c) ?_
      refine V_vret dX8_readsCommand_122 rfl (Nat.le_of_ble_eq_true rfl) (Nat.le_of_ble_eq_true rfl) ?_
      (refine rcn (ρ := rc2 σ c 5 _ _) ?_ rc2_TR (w3_eq _ _ _ _ _) rfl; simp [pCmd, hpk, fdN, mkN, sdN, *]; done)
    · rw [if_neg hd, if_neg hd]
      refine VAP_28 (j := 2 * c) dX8_readsCommand_54 hA (pk_mul 2 c) (by omega) ?_
      by_cases hm : pMark t n (pNum t n 1 (p + 1) 0).1 (nI 61) = true
      · have hm1 : (pNum t n 1 (p + 1) 0).1 < n := by
          simp only [pMark, Bool.and_eq_true, decide_eq_true_eq] at hm
          exact hm.1
        have hm2 : ob (t (pNum t n 1 (p + 1) 0).1) 61 61 = false := by
          simp only [pMark, Bool.and_eq_true, decide_eq_true_eq] at hm
          rw [hm.2]
          decide
        refine V_iload_n (i := 1) dX8_readsCommand_55 rfl rfl ?_
        refine V_iconst (v := 2) dX8_readsCommand_56 (by decide) ?_
        refine V_icmp_eq (tgt := 65) dX8_readsCommand_57 (by decide) (fun h57 => by first | exact absurd h57 ((by decide)) | exact absurd ((by decide)) h57) (fun _ => ?_)
        refine V_iload_n (i := 1) dX8_readsCommand_60 rfl rfl ?_
        refine V_iconst (v := 5) dX8_readsCommand_61 (by decide) ?_
        refine V_icmp_ne (tgt := 112) dX8_readsCommand_62 (by decide) (fun h62 => by first | exact absurd h62 ((by decide)) | exact absurd ((by decide)) h62) (fun _ => ?_)
        refine V_iload_n (i := 1) dX8_readsCommand_65 rfl rfl ?_
        refine V_iconst (v := 2) dX8_readsCommand_66 (by decide) ?_
        refine V_icmp_ne (tgt := 75) dX8_readsCommand_67 (by decide) (fun _ => ?_) (fun h67 => by first | exact absurd ((by decide)) h67 | exact absurd h67 ((by decide)))
        refine V_bipush (v := 61) dX8_readsCommand_75 (by decide) ?_
        refine V_istore_n (i := 2) dX8_readsCommand_77 rfl (by decide) ?_
        refine V_aload_n (i := 0) dX8_readsCommand_78 rfl rfl ?_
        refine V_iload_n (i := 2) dX8_readsCommand_79 rfl rfl ?_
        refine V_iload_n (i := 2) dX8_readsCommand_80 rfl rfl ?_
        refine Cv1_2 (d := 6) cv_X8_196 dX8_readsCommand_81 (t_X8_reads_y hA (funext fun z => (w3_ne (by omega)).trans ((w3_ne (by omega)).trans (congrFun ht z))) ((w3_ne (by omega)).trans ((w3_ne (by omega)).trans hn)) hn6 (by omega) hm1 hm2) (hp20 hA) rfl rfl (Nat.le_of_ble_eq_true rfl) ⟨Nat.le_refl _, Nat.le_refl _⟩ (by decide) ⟨Nat.le_of_ble_eq_true rfl, Nat.le_of_ble_eq_true rfl⟩ ?_
        refine V_istore_n (i := 3) dX8_readsCommand_84 rfl (by decide) ?_
        refine V_aload_n (i := 0) dX8_readsCommand_85 rfl rfl ?_
        refine V_getf fl_X8_35 dX8_readsCommand_86 (hp20 hA) rfl ?_
        refine V_iconst (v := nI 2) dX8_readsCommand_89 (by decide) ?_
        refine V_aload_n (i := 0) dX8_readsCommand_90 rfl rfl ?_
        refine V_getf fl_X8_210 dX8_readsCommand_91 (hp20 hA) rfl ?_
        rw [show ∀ (q : Nat) (v : Int32), (pst (w3 (w3 σ 27 0 c (nI 5)) 28 0 (2 * c) (pNum t n 1 (p + 1) 0).2) q v).1 20 0 20 = nI c from fun q v => ((ps_f (by decide) (by decide)).trans ((w3_ne (by omega)).trans ((w3_ne (by omega)).trans hc)))]
        refine V_imul dX8_readsCommand_94 ?_
        refine V_iconst (v := nI 1) dX8_readsCommand_95 (by decide) ?_
        refine V_iadd dX8_readsCommand_96 ?_
        refine V_aload_n (i := 0) dX8_readsCommand_97 rfl rfl ?_
        refine V_iload_n (i := 1) dX8_readsCommand_98 rfl rfl ?_
        refine V_iconst (v := 5) dX8_readsCommand_99 (by decide) ?_
        refine V_icmp_ne (tgt := 107) dX8_readsCommand_100 (by decide) (fun h100 => by first | exact absurd h100 ((by decide)) | exact absurd ((by decide)) h100) (fun _ => ?_)
        refine V_iconst (v := 1) dX8_readsCommand_103 (by decide) ?_
        refine V_goto (tgt := 108) dX8_readsCommand_104 (by decide) ?_
        refine Cv1_1 (d := 6) cv_X8_213 dX8_readsCommand_108 (t_X8_digits hA (funext fun z => (w3_ne (by omega)).trans ((w3_ne (by omega)).trans (congrFun ht z))) ((w3_ne (by omega)).trans ((w3_ne (by omega)).trans hn)) hn6 (by omega) (m := 2) (by decide) (by decide)) (hp20 hA) rfl rfl (Nat.le_of_ble_eq_true rfl) ⟨Nat.le_refl _, Nat.le_refl _⟩ (by decide) ⟨Nat.le_of_ble_eq_true rfl, Nat.le_of_ble_eq_true rfl⟩ ?_
        by_cases hd2 : (pNum t n 2 ((pNum t n 1 (p + 1) 0).1 + 1) 0).1 = (pNum t n 1 (p + 1) 0).1 + 1
        · rw [if_pos hd2, if_pos hd2]
          refine VAP_28 (j := 2 * c + 1) dX8_readsCommand_111 hA (show nI 2 * nI c + nI 1 = nI (2 * c + 1) from by rw [pk_mul, nI_add]) (by omega) ?_
          refine V_aload_n (i := 0) dX8_readsCommand_112 rfl rfl ?_
          refine V_dup dX8_readsCommand_113 rfl ?_
          refine V_getf fl_X8_210 dX8_readsCommand_114 (hp20 hA) rfl ?_
          refine V_iconst (v := 1) dX8_readsCommand_117 (by decide) ?_
          refine V_iadd dX8_readsCommand_118 ?_
          refine VPt (q := c + 1) fl_X8_210 dX8_readsCommand_119 hA (by rw [show ∀ (s : Sg) (x1 x2 x3 : Int32) (j1 j2 j3 q : Nat) (v : Int32), (pst (w3 (w3 (w3 s 27 0 j1 x1) 28 0 j2 x2) 28 0 j3 x3) q v).1 20 0 20 = s.1 20 0 20 from fun s x1 x2 x3 j1 j2 j3 q v => (ps_f (by decide) (by decide)).trans ((w3_ne (by omega)).trans ((w3_ne (by omega)).trans (w3_ne (by omega)))), hc]; exact nI_1 c) ?_
          refine V_vret dX8_readsCommand_122 rfl (Nat.le_of_ble_eq_true rfl) (Nat.le_of_ble_eq_true rfl) ?_
          first
            | (refine rcn (ρ := rc2 σ c 5 _ _) ?_ rc2_TR (w3_eq _ _ _ _ _) rfl; simp [pCmd, hpk, fdN, mkN, sdN, *]; done)
            | (refine rcy2 (k := 5) ?_ (by decide); simp [pCmd, hpk, fdN, mkN, sdN, *]; done)
        · rw [if_neg hd2, if_neg hd2]
          refine VAP_28 (j := 2 * c + 1) dX8_readsCommand_111 hA (show nI 2 * nI c + nI 1 = nI (2 * c + 1) from by rw [pk_mul, nI_add]) (by omega) ?_
          refine V_aload_n (i := 0) dX8_readsCommand_112 rfl rfl ?_
          refine V_dup dX8_readsCommand_113 rfl ?_
          refine V_getf fl_X8_210 dX8_readsCommand_114 (hp20 hA) rfl ?_
          refine V_iconst (v := 1) dX8_readsCommand_117 (by decide) ?_
          refine V_iadd dX8_readsCommand_118 ?_
          refine VPt (q := c + 1) fl_X8_210 dX8_readsCommand_119 hA (by rw [show ∀ (s : Sg) (x1 x2 x3 : Int32) (j1 j2 j3 q : Nat) (v : Int32), (pst (w3 (w3 (w3 s 27 0 j1 x1) 28 0 j2 x2) 28 0 j3 x3) q v).1 20 0 20 = s.1 20 0 20 from fun s x1 x2 x3 j1 j2 j3 q v => (ps_f (by decide) (by decide)).trans ((w3_ne (by omega)).trans ((w3_ne (by omega)).trans (w3_ne (by omega)))), hc]; exact nI_1 c) ?_
          refine V_vret dX8_readsCommand_122 rfl (Nat.le_of_ble_eq_true rfl) (Nat.le_of_ble_eq_true rfl) ?_
          first
            | (refine rcn (ρ := rc2 σ c 5 _ _) ?_ rc2_TR (w3_eq _ _ _ _ _) rfl; simp [pCmd, hpk, fdN, mkN, sdN, *]; done)
            | (refine rcy2 (k := 5) ?_ (by decide); simp [pCmd, hpk, fdN, mkN, sdN, *]; done)
      · replace hm := Bool.eq_false_iff.mpr hm
        have hm2 : ob (sgn t n (pNum t n 1 (p + 1) 0).1) 61 61 = true := by
          by_cases z : (pNum t n 1 (p + 1) 0).1 < n
          · have z2 : ¬ t (pNum t n 1 (p + 1) 0).1 = 61 := fun e => by
              rw [pMark, decide_eq_true z, e] at hm
              exact absurd hm (by decide)
            rw [sgn, if_pos z]
            exact ob_ne z2
          · rw [sgn, if_neg z]
            decide
        refine V_iload_n (i := 1) dX8_readsCommand_55 rfl rfl ?_
        refine V_iconst (v := 2) dX8_readsCommand_56 (by decide) ?_
        refine V_icmp_eq (tgt := 65) dX8_readsCommand_57 (by decide) (fun h57 => by first | exact absurd h57 ((by decide)) | exact absurd ((by decide)) h57) (fun _ => ?_)
        refine V_iload_n (i := 1) dX8_readsCommand_60 rfl rfl ?_
        refine V_iconst (v := 5) dX8_readsCommand_61 (by decide) ?_
        refine V_icmp_ne (tgt := 112) dX8_readsCommand_62 (by decide) (fun h62 => by first | exact absurd h62 ((by decide)) | exact absurd ((by decide)) h62) (fun _ => ?_)
        refine V_iload_n (i := 1) dX8_readsCommand_65 rfl rfl ?_
        refine V_iconst (v := 2) dX8_readsCommand_66 (by decide) ?_
        refine V_icmp_ne (tgt := 75) dX8_readsCommand_67 (by decide) (fun _ => ?_) (fun h67 => by first | exact absurd ((by decide)) h67 | exact absurd h67 ((by decide)))
        refine V_bipush (v := 61) dX8_readsCommand_75 (by decide) ?_
        refine V_istore_n (i := 2) dX8_readsCommand_77 rfl (by decide) ?_
        refine V_aload_n (i := 0) dX8_readsCommand_78 rfl rfl ?_
        refine V_iload_n (i := 2) dX8_readsCommand_79 rfl rfl ?_
        refine V_iload_n (i := 2) dX8_readsCommand_80 rfl rfl ?_
        refine Cv1_2 (d := 6) cv_X8_196 dX8_readsCommand_81 (t_X8_reads_n hA (funext fun z => (w3_ne (by omega)).trans ((w3_ne (by omega)).trans (congrFun ht z))) ((w3_ne (by omega)).trans ((w3_ne (by omega)).trans hn)) hn6 (by omega) hm2) (hp20 hA) rfl rfl (Nat.le_of_ble_eq_true rfl) ⟨Nat.le_refl _, Nat.le_refl _⟩ (by decide) ⟨Nat.le_of_ble_eq_true rfl, Nat.le_of_ble_eq_true rfl⟩ ?_
        refine V_istore_n (i := 3) dX8_readsCommand_84 rfl (by decide) ?_
        refine V_aload_n (i := 0) dX8_readsCommand_85 rfl rfl ?_
        refine V_getf fl_X8_35 dX8_readsCommand_86 (hp20 hA) rfl ?_
        refine V_iconst (v := nI 2) dX8_readsCommand_89 (by decide) ?_
        refine V_aload_n (i := 0) dX8_readsCommand_90 rfl rfl ?_
        refine V_getf fl_X8_210 dX8_readsCommand_91 (hp20 hA) rfl ?_
        rw [show ∀ (q : Nat) (v : Int32), (pst (w3 (w3 σ 27 0 c (nI 5)) 28 0 (2 * c) (pNum t n 1 (p + 1) 0).2) q v).1 20 0 20 = nI c from fun q v => ((ps_f (by decide) (by decide)).trans ((w3_ne (by omega)).trans ((w3_ne (by omega)).trans hc)))]
        refine V_imul dX8_readsCommand_94 ?_
        refine V_iconst (v := nI 1) dX8_readsCommand_95 (by decide) ?_
        refine V_iadd dX8_readsCommand_96 ?_
        refine V_aload_n (i := 0) dX8_readsCommand_97 rfl rfl ?_
        refine V_iload_n (i := 1) dX8_readsCommand_98 rfl rfl ?_
        refine V_iconst (v := 5) dX8_readsCommand_99 (by decide) ?_
        refine V_icmp_ne (tgt := 107) dX8_readsCommand_100 (by decide) (fun h100 => by first | exact absurd h100 ((by decide)) | exact absurd ((by decide)) h100) (fun _ => ?_)
        refine V_iconst (v := 1) dX8_readsCommand_103 (by decide) ?_
        refine V_goto (tgt := 108) dX8_readsCommand_104 (by decide) ?_
        refine Cv1_1 (d := 6) cv_X8_213 dX8_readsCommand_108 (t_X8_digits_w1 hA (funext fun z => (w3_ne (by omega)).trans ((w3_ne (by omega)).trans (congrFun ht z))) ((w3_ne (by omega)).trans ((w3_ne (by omega)).trans hn)) hn6 (by omega) (m1_ne (by omega))) (hp20 hA) rfl rfl (Nat.le_of_ble_eq_true rfl) ⟨Nat.le_refl _, Nat.le_refl _⟩ (by decide) ⟨Nat.le_of_ble_eq_true rfl, Nat.le_of_ble_eq_true rfl⟩ ?_
        refine VAP_28 (j := 2 * c + 1) dX8_readsCommand_111 hA (show nI 2 * nI c + nI 1 = nI (2 * c + 1) from by rw [pk_mul, nI_add]) (by omega) ?_
        refine V_aload_n (i := 0) dX8_readsCommand_112 rfl rfl ?_
        refine V_dup dX8_readsCommand_113 rfl ?_
        refine V_getf fl_X8_210 dX8_readsCommand_114 (hp20 hA) rfl ?_
        refine V_iconst (v := 1) dX8_readsCommand_117 (by decide) ?_
        refine V_iadd dX8_readsCommand_118 ?_
        refine VPt (q := c + 1) fl_X8_210 dX8_readsCommand_119 hA (by rw [show ∀ (s : Sg) (x1 x2 x3 : Int32) (j1 j2 j3 q : Nat) (v : Int32), (pst (w3 (w3 (w3 s 27 0 j1 x1) 28 0 j2 x2) 28 0 j3 x3) q v).1 20 0 20 = s.1 20 0 20 from fun s x1 x2 x3 j1 j2 j3 q v => (ps_f (by decide) (by decide)).trans ((w3_ne (by omega)).trans ((w3_ne (by omega)).trans (w3_ne (by omega)))), hc]; exact nI_1 c) ?_
        refine V_vret dX8_readsCommand_122 rfl (Nat.le_of_ble_eq_true rfl) (Nat.le_of_ble_eq_true rfl) ?_
        (refine rcn (ρ := rc2 σ c 5 _ _) ?_ rc2_TR (w3_eq _ _ _ _ _) rfl; simp [pCmd, hpk, fdN, mkN, sdN, *]; done)
  · have hpk : pK t n p = 6 := pK_sgn.trans hk
    refine V_aload_n (i := 0) dX8_readsCommand_0 rfl rfl ?_
    refine Cv1_0 (d := 6) cv_X8_207 dX8_readsCommand_1 (t_X8_kind hA ht hn hn6 (by omega)) (hp20 hA) rfl rfl (Nat.le_of_ble_eq_true rfl) ⟨Nat.le_refl _, Nat.le_refl _⟩ (by decide) ⟨Nat.le_of_ble_eq_true rfl, Nat.le_of_ble_eq_true rfl⟩ ?_
    rw [show (if kIx (sgn t n p) = 8 then 0 else kIx (sgn t n p)) = 6 from by rw [hk]; rfl, show (if kIx (sgn t n p) = 8 then pst σ p (nI p) else pst σ (p + 1) (-1)) = pst σ (p + 1) (-1) from by rw [hk]; rfl]
    refine V_istore_n (i := 1) dX8_readsCommand_4 rfl (by decide) ?_
    refine V_aload_n (i := 0) dX8_readsCommand_5 rfl rfl ?_
    refine V_getf fl_X8_32 dX8_readsCommand_6 (hp20 hA) rfl ?_
    refine V_aload_n (i := 0) dX8_readsCommand_9 rfl rfl ?_
    refine V_getf fl_X8_210 dX8_readsCommand_10 (hp20 hA) rfl ?_
    refine V_iload_n (i := 1) dX8_readsCommand_13 rfl rfl ?_
    refine VAP_27 (j := c) dX8_readsCommand_14 hA ((ps_f (by decide) (by decide)).trans hc) (by omega) ?_
    refine V_aload_n (i := 0) dX8_readsCommand_15 rfl rfl ?_
    refine V_getf fl_X8_35 dX8_readsCommand_16 (hp20 hA) rfl ?_
    refine V_iconst (v := nI 2) dX8_readsCommand_19 (by decide) ?_
    refine V_aload_n (i := 0) dX8_readsCommand_20 rfl rfl ?_
    refine V_getf fl_X8_210 dX8_readsCommand_21 (hp20 hA) rfl ?_
    rw [show ∀ (q : Nat) (v : Int32), (pst (w3 σ 27 0 c (nI 6)) q v).1 20 0 20 = nI c from fun q v => ((ps_f (by decide) (by decide)).trans ((w3_ne (by omega)).trans hc))]
    refine V_imul dX8_readsCommand_24 ?_
    refine V_iload_n (i := 1) dX8_readsCommand_25 rfl rfl ?_
    refine V_iconst (v := 3) dX8_readsCommand_26 (by decide) ?_
    refine V_icmp_ne (tgt := 34) dX8_readsCommand_27 (by decide) (fun _ => ?_) (fun h27 => by first | exact absurd ((by decide)) h27 | exact absurd h27 ((by decide)))
    refine V_aload_n (i := 0) dX8_readsCommand_34 rfl rfl ?_
    refine V_iload_n (i := 1) dX8_readsCommand_35 rfl rfl ?_
    refine V_iconst (v := 1) dX8_readsCommand_36 (by decide) ?_
    refine V_icmp_eq (tgt := 46) dX8_readsCommand_37 (by decide) (fun h37 => by first | exact absurd h37 ((by decide)) | exact absurd ((by decide)) h37) (fun _ => ?_)
    refine V_iload_n (i := 1) dX8_readsCommand_40 rfl rfl ?_
    refine V_bipush (v := 7) dX8_readsCommand_41 (by decide) ?_
    refine V_icmp_ne (tgt := 50) dX8_readsCommand_43 (by decide) (fun _ => ?_) (fun h43 => by first | exact absurd ((by decide)) h43 | exact absurd h43 ((by decide)))
    refine V_iconst (v := 0) dX8_readsCommand_50 (by decide) ?_
    refine Cv1_1 (d := 6) cv_X8_213 dX8_readsCommand_51 (t_X8_digits hA (funext fun z => (w3_ne (by omega)).trans (congrFun ht z)) ((w3_ne (by omega)).trans hn) hn6 (by omega) (m := 1) (by decide) (by decide)) (hp20 hA) rfl rfl (Nat.le_of_ble_eq_true rfl) ⟨Nat.le_refl _, Nat.le_refl _⟩ (by decide) ⟨Nat.le_of_ble_eq_true rfl, Nat.le_of_ble_eq_true rfl⟩ ?_
    have hb1 := pNum_le (t := t) (n := n) 1 (p + 1) 0
    by_cases hd : (pNum t n 1 (p + 1) 0).1 = p + 1
    · rw [if_pos hd, if_pos hd]
      refine VAP_28 (j := 2 * c) dX8_readsCommand_54 hA (pk_mul 2 c) (by omega) ?_
      refine V_iload_n (i := 1) dX8_readsCommand_55 rfl rfl ?_
      refine V_iconst (v := 2) dX8_readsCommand_56 (by decide) ?_
      refine V_icmp_eq (tgt := 65) dX8_readsCommand_57 (by decide) (fun h57 => by first | exact absurd h57 ((by decide)) | exact absurd ((by decide)) h57) (fun _ => ?_)
      refine V_iload_n (i := 1) dX8_readsCommand_60 rfl rfl ?_
      refine V_iconst (v := 5) dX8_readsCommand_61 (by decide) ?_
      refine V_icmp_ne (tgt := 112) dX8_readsCommand_62 (by decide) (fun _ => ?_) (fun h62 => by first | exact absurd ((by decide)) h62 | exact absurd h62 ((by decide)))
      refine V_aload_n (i := 0) dX8_readsCommand_112 rfl rfl ?_
      refine V_dup dX8_readsCommand_113 rfl ?_
      refine V_getf fl_X8_210 dX8_readsCommand_114 (hp20 hA) rfl ?_
      refine V_iconst (v := 1) dX8_readsCommand_117 (by decide) ?_
      refine V_iadd dX8_readsCommand_118 ?_
      refine VPt (q := c + 1) fl_X8_210 dX8_readsCommand_119 hA (by rw [show ∀ (s : Sg) (x1 x2 : Int32) (j1 j2 q : Nat) (v : Int32), (pst (w3 (w3 s 27 0 j1 x1) 28 0 j2 x2) q v).1 20 0 20 = s.1 20 0 20 from fun s x1 x2 j1 j2 q v => (ps_f (by decide) (by decide)).trans ((w3_ne (by omega)).trans (w3_ne (by omega))), hc]; exact nI_1 c) ?_
      refine V_vret dX8_readsCommand_122 rfl (Nat.le_of_ble_eq_true rfl) (Nat.le_of_ble_eq_true rfl) ?_
      first
        | (refine rcn (ρ := rc1 σ c 6 _) ?_ rc1_TR (w3_eq _ _ _ _ _) rfl; simp [pCmd, hpk, fdN, mkN, sdN, *]; done)
        | (refine rcy1 (k := 6) ?_ (by decide) (by decide); simp [pCmd, hpk, fdN, mkN, sdN, *]; done)
    · rw [if_neg hd, if_neg hd]
      refine VAP_28 (j := 2 * c) dX8_readsCommand_54 hA (pk_mul 2 c) (by omega) ?_
      refine V_iload_n (i := 1) dX8_readsCommand_55 rfl rfl ?_
      refine V_iconst (v := 2) dX8_readsCommand_56 (by decide) ?_
      refine V_icmp_eq (tgt := 65) dX8_readsCommand_57 (by decide) (fun h57 => by first | exact absurd h57 ((by decide)) | exact absurd ((by decide)) h57) (fun _ => ?_)
      refine V_iload_n (i := 1) dX8_readsCommand_60 rfl rfl ?_
      refine V_iconst (v := 5) dX8_readsCommand_61 (by decide) ?_
      refine V_icmp_ne (tgt := 112) dX8_readsCommand_62 (by decide) (fun _ => ?_) (fun h62 => by first | exact absurd ((by decide)) h62 | exact absurd h62 ((by decide)))
      refine V_aload_n (i := 0) dX8_readsCommand_112 rfl rfl ?_
      refine V_dup dX8_readsCommand_113 rfl ?_
      refine V_getf fl_X8_210 dX8_readsCommand_114 (hp20 hA) rfl ?_
      refine V_iconst (v := 1) dX8_readsCommand_117 (by decide) ?_
      refine V_iadd dX8_readsCommand_118 ?_
      refine VPt (q := c + 1) fl_X8_210 dX8_readsCommand_119 hA (by rw [show ∀ (s : Sg) (x1 x2 : Int32) (j1 j2 q : Nat) (v : Int32), (pst (w3 (w3 s 27 0 j1 x1) 28 0 j2 x2) q v).1 20 0 20 = s.1 20 0 20 from fun s x1 x2 j1 j2 q v => (ps_f (by decide) (by decide)).trans ((w3_ne (by omega)).trans (w3_ne (by omega))), hc]; exact nI_1 c) ?_
      refine V_vret dX8_readsCommand_122 rfl (Nat.le_of_ble_eq_true rfl) (Nat.le_of_ble_eq_true rfl) ?_
      first
        | (refine rcn (ρ := rc1 σ c 6 _) ?_ rc1_TR (w3_eq _ _ _ _ _) rfl; simp [pCmd, hpk, fdN, mkN, sdN, *]; done)
        | (refine rcy1 (k := 6) ?_ (by decide) (by decide); simp [pCmd, hpk, fdN, mkN, sdN, *]; done)
  · have hpk : pK t n p = 7 := pK_sgn.trans hk
    refine V_aload_n (i := 0) dX8_readsCommand_0 rfl rfl ?_
    refine Cv1_0 (d := 6) cv_X8_207 dX8_readsCommand_1 (t_X8_kind hA ht hn hn6 (by omega)) (hp20 hA) rfl rfl (Nat.le_of_ble_eq_true rfl) ⟨Nat.le_refl _, Nat.le_refl _⟩ (by decide) ⟨Nat.le_of_ble_eq_true rfl, Nat.le_of_ble_eq_true rfl⟩ ?_
    rw [show (if kIx (sgn t n p) = 8 then 0 else kIx (sgn t n p)) = 7 from by rw [hk]; rfl, show (if kIx (sgn t n p) = 8 then pst σ p (nI p) else pst σ (p + 1) (-1)) = pst σ (p + 1) (-1) from by rw [hk]; rfl]
    refine V_istore_n (i := 1) dX8_readsCommand_4 rfl (by decide) ?_
    refine V_aload_n (i := 0) dX8_readsCommand_5 rfl rfl ?_
    refine V_getf fl_X8_32 dX8_readsCommand_6 (hp20 hA) rfl ?_
    refine V_aload_n (i := 0) dX8_readsCommand_9 rfl rfl ?_
    refine V_getf fl_X8_210 dX8_readsCommand_10 (hp20 hA) rfl ?_
    refine V_iload_n (i := 1) dX8_readsCommand_13 rfl rfl ?_
    refine VAP_27 (j := c) dX8_readsCommand_14 hA ((ps_f (by decide) (by decide)).trans hc) (by omega) ?_
    refine V_aload_n (i := 0) dX8_readsCommand_15 rfl rfl ?_
    refine V_getf fl_X8_35 dX8_readsCommand_16 (hp20 hA) rfl ?_
    refine V_iconst (v := nI 2) dX8_readsCommand_19 (by decide) ?_
    refine V_aload_n (i := 0) dX8_readsCommand_20 rfl rfl ?_
    refine V_getf fl_X8_210 dX8_readsCommand_21 (hp20 hA) rfl ?_
    rw [show ∀ (q : Nat) (v : Int32), (pst (w3 σ 27 0 c (nI 7)) q v).1 20 0 20 = nI c from fun q v => ((ps_f (by decide) (by decide)).trans ((w3_ne (by omega)).trans hc))]
    refine V_imul dX8_readsCommand_24 ?_
    refine V_iload_n (i := 1) dX8_readsCommand_25 rfl rfl ?_
    refine V_iconst (v := 3) dX8_readsCommand_26 (by decide) ?_
    refine V_icmp_ne (tgt := 34) dX8_readsCommand_27 (by decide) (fun _ => ?_) (fun h27 => by first | exact absurd ((by decide)) h27 | exact absurd h27 ((by decide)))
    refine V_aload_n (i := 0) dX8_readsCommand_34 rfl rfl ?_
    refine V_iload_n (i := 1) dX8_readsCommand_35 rfl rfl ?_
    refine V_iconst (v := 1) dX8_readsCommand_36 (by decide) ?_
    refine V_icmp_eq (tgt := 46) dX8_readsCommand_37 (by decide) (fun h37 => by first | exact absurd h37 ((by decide)) | exact absurd ((by decide)) h37) (fun _ => ?_)
    refine V_iload_n (i := 1) dX8_readsCommand_40 rfl rfl ?_
    refine V_bipush (v := 7) dX8_readsCommand_41 (by decide) ?_
    refine V_icmp_ne (tgt := 50) dX8_readsCommand_43 (by decide) (fun h43 => by first | exact absurd h43 ((by decide)) | exact absurd ((by decide)) h43) (fun _ => ?_)
    refine V_iconst (v := 1) dX8_readsCommand_46 (by decide) ?_
    refine V_goto (tgt := 51) dX8_readsCommand_47 (by decide) ?_
    refine Cv1_1 (d := 6) cv_X8_213 dX8_readsCommand_51 (t_X8_digits hA (funext fun z => (w3_ne (by omega)).trans (congrFun ht z)) ((w3_ne (by omega)).trans hn) hn6 (by omega) (m := 2) (by decide) (by decide)) (hp20 hA) rfl rfl (Nat.le_of_ble_eq_true rfl) ⟨Nat.le_refl _, Nat.le_refl _⟩ (by decide) ⟨Nat.le_of_ble_eq_true rfl, Nat.le_of_ble_eq_true rfl⟩ ?_
    have hb1 := pNum_le (t := t) (n := n) 2 (p + 1) 0
    by_cases hd : (pNum t n 2 (p + 1) 0).1 = p + 1
    · rw [if_pos hd, if_pos hd]
      refine VAP_28 (j := 2 * c) dX8_readsCommand_54 hA (pk_mul 2 c) (by omega) ?_
      refine V_iload_n (i := 1) dX8_readsCommand_55 rfl rfl ?_
      refine V_iconst (v := 2) dX8_readsCommand_56 (by decide) ?_
      refine V_icmp_eq (tgt := 65) dX8_readsCommand_57 (by decide) (fun h57 => by first | exact absurd h57 ((by decide)) | exact absurd ((by decide)) h57) (fun _ => ?_)
      refine V_iload_n (i := 1) dX8_readsCommand_60 rfl rfl ?_
      refine V_iconst (v := 5) dX8_readsCommand_61 (by decide) ?_
      refine V_icmp_ne (tgt := 112) dX8_readsCommand_62 (by decide) (fun _ => ?_) (fun h62 => by first | exact absurd ((by decide)) h62 | exact absurd h62 ((by decide)))
      refine V_aload_n (i := 0) dX8_readsCommand_112 rfl rfl ?_
      refine V_dup dX8_readsCommand_113 rfl ?_
      refine V_getf fl_X8_210 dX8_readsCommand_114 (hp20 hA) rfl ?_
      refine V_iconst (v := 1) dX8_readsCommand_117 (by decide) ?_
      refine V_iadd dX8_readsCommand_118 ?_
      refine VPt (q := c + 1) fl_X8_210 dX8_readsCommand_119 hA (by rw [show ∀ (s : Sg) (x1 x2 : Int32) (j1 j2 q : Nat) (v : Int32), (pst (w3 (w3 s 27 0 j1 x1) 28 0 j2 x2) q v).1 20 0 20 = s.1 20 0 20 from fun s x1 x2 j1 j2 q v => (ps_f (by decide) (by decide)).trans ((w3_ne (by omega)).trans (w3_ne (by omega))), hc]; exact nI_1 c) ?_
      refine V_vret dX8_readsCommand_122 rfl (Nat.le_of_ble_eq_true rfl) (Nat.le_of_ble_eq_true rfl) ?_
      first
        | (refine rcn (ρ := rc1 σ c 7 _) ?_ rc1_TR (w3_eq _ _ _ _ _) rfl; simp [pCmd, hpk, fdN, mkN, sdN, *]; done)
        | (refine rcy1 (k := 7) ?_ (by decide) (by decide); simp [pCmd, hpk, fdN, mkN, sdN, *]; done)
    · rw [if_neg hd, if_neg hd]
      refine VAP_28 (j := 2 * c) dX8_readsCommand_54 hA (pk_mul 2 c) (by omega) ?_
      refine V_iload_n (i := 1) dX8_readsCommand_55 rfl rfl ?_
      refine V_iconst (v := 2) dX8_readsCommand_56 (by decide) ?_
      refine V_icmp_eq (tgt := 65) dX8_readsCommand_57 (by decide) (fun h57 => by first | exact absurd h57 ((by decide)) | exact absurd ((by decide)) h57) (fun _ => ?_)
      refine V_iload_n (i := 1) dX8_readsCommand_60 rfl rfl ?_
      refine V_iconst (v := 5) dX8_readsCommand_61 (by decide) ?_
      refine V_icmp_ne (tgt := 112) dX8_readsCommand_62 (by decide) (fun _ => ?_) (fun h62 => by first | exact absurd ((by decide)) h62 | exact absurd h62 ((by decide)))
      refine V_aload_n (i := 0) dX8_readsCommand_112 rfl rfl ?_
      refine V_dup dX8_readsCommand_113 rfl ?_
      refine V_getf fl_X8_210 dX8_readsCommand_114 (hp20 hA) rfl ?_
      refine V_iconst (v := 1) dX8_readsCommand_117 (by decide) ?_
      refine V_iadd dX8_readsCommand_118 ?_
      refine VPt (q := c + 1) fl_X8_210 dX8_readsCommand_119 hA (by rw [show ∀ (s : Sg) (x1 x2 : Int32) (j1 j2 q : Nat) (v : Int32), (pst (w3 (w3 s 27 0 j1 x1) 28 0 j2 x2) q v).1 20 0 20 = s.1 20 0 20 from fun s x1 x2 j1 j2 q v => (ps_f (by decide) (by decide)).trans ((w3_ne (by omega)).trans (w3_ne (by omega))), hc]; exact nI_1 c) ?_
      refine V_vret dX8_readsCommand_122 rfl (Nat.le_of_ble_eq_true rfl) (Nat.le_of_ble_eq_true rfl) ?_
      first
        | (refine rcn (ρ := rc1 σ c 7 _) ?_ rc1_TR (w3_eq _ _ _ _ _) rfl; simp [pCmd, hpk, fdN, mkN, sdN, *]; done)
        | (refine rcy1 (k := 7) ?_ (by decide) (by decide); simp [pCmd, hpk, fdN, mkN, sdN, *]; done)
  · have hpk : pK t n p = 8 := pK_sgn.trans hk
    refine V_aload_n (i := 0) dX8_readsCommand_0 rfl rfl ?_
    refine Cv1_0 (d := 6) cv_X8_207 dX8_readsCommand_1 (t_X8_kind hA ht hn hn6 (by omega)) (hp20 hA) rfl rfl (Nat.le_of_ble_eq_true rfl) ⟨Nat.le_refl _, Nat.le_refl _⟩ (by decide) ⟨Nat.le_of_ble_eq_true rfl, Nat.le_of_ble_eq_true rfl⟩ ?_
    rw [show (if kIx (sgn t n p) = 8 then 0 else kIx (sgn t n p)) = 0 from if_pos hk, show (if kIx (sgn t n p) = 8 then pst σ p (nI p) else pst σ (p + 1) (-1)) = pst σ p (nI p) from if_pos hk]
    refine V_istore_n (i := 1) dX8_readsCommand_4 rfl (by decide) ?_
    refine V_aload_n (i := 0) dX8_readsCommand_5 rfl rfl ?_
    refine V_getf fl_X8_32 dX8_readsCommand_6 (hp20 hA) rfl ?_
    refine V_aload_n (i := 0) dX8_readsCommand_9 rfl rfl ?_
    refine V_getf fl_X8_210 dX8_readsCommand_10 (hp20 hA) rfl ?_
    refine V_iload_n (i := 1) dX8_readsCommand_13 rfl rfl ?_
    refine VAP_27 (j := c) dX8_readsCommand_14 hA ((ps_f (by decide) (by decide)).trans hc) (by omega) ?_
    refine V_aload_n (i := 0) dX8_readsCommand_15 rfl rfl ?_
    refine V_getf fl_X8_35 dX8_readsCommand_16 (hp20 hA) rfl ?_
    refine V_iconst (v := nI 2) dX8_readsCommand_19 (by decide) ?_
    refine V_aload_n (i := 0) dX8_readsCommand_20 rfl rfl ?_
    refine V_getf fl_X8_210 dX8_readsCommand_21 (hp20 hA) rfl ?_
    rw [show ∀ (q : Nat) (v : Int32), (pst (w3 σ 27 0 c (nI 0)) q v).1 20 0 20 = nI c from fun q v => ((ps_f (by decide) (by decide)).trans ((w3_ne (by omega)).trans hc))]
    refine V_imul dX8_readsCommand_24 ?_
    refine V_iload_n (i := 1) dX8_readsCommand_25 rfl rfl ?_
    refine V_iconst (v := 3) dX8_readsCommand_26 (by decide) ?_
    refine V_icmp_ne (tgt := 34) dX8_readsCommand_27 (by decide) (fun _ => ?_) (fun h27 => by first | exact absurd ((by decide)) h27 | exact absurd h27 ((by decide)))
    refine V_aload_n (i := 0) dX8_readsCommand_34 rfl rfl ?_
    refine V_iload_n (i := 1) dX8_readsCommand_35 rfl rfl ?_
    refine V_iconst (v := 1) dX8_readsCommand_36 (by decide) ?_
    refine V_icmp_eq (tgt := 46) dX8_readsCommand_37 (by decide) (fun h37 => by first | exact absurd h37 ((by decide)) | exact absurd ((by decide)) h37) (fun _ => ?_)
    refine V_iload_n (i := 1) dX8_readsCommand_40 rfl rfl ?_
    refine V_bipush (v := 7) dX8_readsCommand_41 (by decide) ?_
    refine V_icmp_ne (tgt := 50) dX8_readsCommand_43 (by decide) (fun _ => ?_) (fun h43 => by first | exact absurd ((by decide)) h43 | exact absurd h43 ((by decide)))
    refine V_iconst (v := 0) dX8_readsCommand_50 (by decide) ?_
    refine Cv1_1 (d := 6) cv_X8_213 dX8_readsCommand_51 (t_X8_digits_w0 hA (funext fun z => (w3_ne (by omega)).trans (congrFun ht z)) ((w3_ne (by omega)).trans hn) hn6 (by omega) (m1_ne (by omega))) (hp20 hA) rfl rfl (Nat.le_of_ble_eq_true rfl) ⟨Nat.le_refl _, Nat.le_refl _⟩ (by decide) ⟨Nat.le_of_ble_eq_true rfl, Nat.le_of_ble_eq_true rfl⟩ ?_
    refine VAP_28 (j := 2 * c) dX8_readsCommand_54 hA (pk_mul 2 c) (by omega) ?_
    refine V_iload_n (i := 1) dX8_readsCommand_55 rfl rfl ?_
    refine V_iconst (v := 2) dX8_readsCommand_56 (by decide) ?_
    refine V_icmp_eq (tgt := 65) dX8_readsCommand_57 (by decide) (fun h57 => by first | exact absurd h57 ((by decide)) | exact absurd ((by decide)) h57) (fun _ => ?_)
    refine V_iload_n (i := 1) dX8_readsCommand_60 rfl rfl ?_
    refine V_iconst (v := 5) dX8_readsCommand_61 (by decide) ?_
    refine V_icmp_ne (tgt := 112) dX8_readsCommand_62 (by decide) (fun _ => ?_) (fun h62 => by first | exact absurd ((by decide)) h62 | exact absurd h62 ((by decide)))
    refine V_aload_n (i := 0) dX8_readsCommand_112 rfl rfl ?_
    refine V_dup dX8_readsCommand_113 rfl ?_
    refine V_getf fl_X8_210 dX8_readsCommand_114 (hp20 hA) rfl ?_
    refine V_iconst (v := 1) dX8_readsCommand_117 (by decide) ?_
    refine V_iadd dX8_readsCommand_118 ?_
    refine VPt (q := c + 1) fl_X8_210 dX8_readsCommand_119 hA (by rw [show ∀ (s : Sg) (x1 x2 : Int32) (j1 j2 q : Nat) (v : Int32), (pst (w3 (w3 s 27 0 j1 x1) 28 0 j2 x2) q v).1 20 0 20 = s.1 20 0 20 from fun s x1 x2 j1 j2 q v => (ps_f (by decide) (by decide)).trans ((w3_ne (by omega)).trans (w3_ne (by omega))), hc]; exact nI_1 c) ?_
    refine V_vret dX8_readsCommand_122 rfl (Nat.le_of_ble_eq_true rfl) (Nat.le_of_ble_eq_true rfl) ?_
    (refine rcn (ρ := rc1 σ c 0 _) ?_ rc1_TR (w3_eq _ _ _ _ _) rfl; simp [pCmd, hpk, fdN, mkN, sdN, *]; done)

