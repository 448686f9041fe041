/-! the reference: its texts -/
def pst (σ : Sg) (p : Nat) (w : Int32) : Sg := w3 (w3 σ 20 0 18 (nI p)) 20 0 19 w
theorem ps_18 {σ : Sg} {p : Nat} {w : Int32} : (pst σ p w).1 20 0 18 = nI p := (w3_ne (by omega)).trans (w3_eq _ _ _ _ _)
theorem ps_19 {σ : Sg} {p : Nat} {w : Int32} : (pst σ p w).1 20 0 19 = w := w3_eq _ _ _ _ _
theorem ps_f {σ : Sg} {p : Nat} {w : Int32} {f : Nat} (h : ¬ f = 18) (h2 : ¬ f = 19) : (pst σ p w).1 20 0 f = σ.1 20 0 f := (w3_ne (by omega)).trans (w3_ne (by omega))
theorem ps_a {σ : Sg} {p : Nat} {w : Int32} {a : Nat} (h : ¬ a = 20) : (pst σ p w).1 a = σ.1 a := funext fun b => funext fun c => (w3_ne (fun q => h q.1)).trans (w3_ne (fun q => h q.1))
theorem ps_ext {σ τ : Sg} (h : ∀ a b c, σ.1 a b c = τ.1 a b c) (h2 : σ.2 = τ.2) : σ = τ := Prod.ext (funext fun a => funext fun b => funext fun c => h a b c) h2
theorem ps_p {σ : Sg} {p q : Nat} {w : Int32} : w3 (pst σ p w) 20 0 18 (nI q) = pst σ q w := ps_ext (fun a b c => by
  unfold pst w3
  dsimp only
  split
  · rename_i z
    rw [if_neg (by omega)]
  · rfl) rfl
theorem ps_w {σ : Sg} {p : Nat} {w x : Int32} : w3 (pst σ p w) 20 0 19 x = pst σ p x := ps_ext (fun a b c => by
  unfold pst w3
  dsimp only
  split
  · rfl
  · rfl) rfl
theorem ps_o {σ : Sg} {p : Nat} {w x : Int32} {a b c : Nat} (h : a = 20 → b = 0 → ¬ c = 18 ∧ ¬ c = 19) : w3 (pst σ p w) a b c x = pst (w3 σ a b c x) p w := ps_ext (fun a' b' c' => by
  unfold pst w3
  dsimp only
  by_cases h1 : a' = 20 ∧ b' = 0 ∧ c' = 19
  · rw [if_pos h1]
    rw [if_neg (fun q => by have z := h (q.1 ▸ h1.1) (q.2.1 ▸ h1.2.1); omega)]
    rw [if_pos h1]
  · rw [if_neg h1]
    by_cases h2 : a' = 20 ∧ b' = 0 ∧ c' = 18
    · rw [if_pos h2]
      rw [if_neg (fun q => by have z := h (q.1 ▸ h2.1) (q.2.1 ▸ h2.2.1); omega)]
      rw [if_neg h1, if_pos h2]
    · rw [if_neg h2]
      by_cases h3 : a' = a ∧ b' = b ∧ c' = c
      · rw [if_pos h3, if_neg h1, if_neg h2]
      · rw [if_neg h3, if_neg h1, if_neg h2]) rfl
theorem ps_id {σ : Sg} {p : Nat} {w : Int32} (h : σ.1 20 0 18 = nI p) (h2 : σ.1 20 0 19 = w) : σ = pst σ p w := ps_ext (fun a b c => by
  unfold pst w3
  dsimp only
  split
  · rename_i z; rw [z.1, z.2.1, z.2.2, h2]
  · split
    · rename_i z; rw [z.1, z.2.1, z.2.2, h]
    · rfl) rfl
section VPS
variable {D : va_G} {s0 : State} {own mn : String} {cc : ByteArray} {nL : Nat} {ret : Option FieldType} {hh : List (Nat × Nat × Nat × Nat)} {l : Launch} {R : Room} {Z : ZT} {pc : Nat} {lo : List (Nat × Value)} {st : List Value} {cells slots : Nat} {B : Nat} {A : AT} {σ : Sg}
theorem VPp {index q p : Nat} {w x : Int32} (hf : FL own index 8 18) (hdg : decode cc pc = .ok (.putfield index, 3)) (hA : AOK B A) (hx : x = nI q) (kk : V D s0 own mn cc nL ret hh l R Z (pc + 3) lo st (HP A (pst σ q w)) cells slots) : V D s0 own mn cc nL ret hh l R Z pc lo (.int x :: .ref (A 20 0 0) :: st) (HP A (pst σ p w)) cells slots := by
  subst hx
  exact VP_20_18 hf hdg hA (V.eqG (congrArg (HP A) ps_p) kk)
theorem VPw {index p : Nat} {w x y : Int32} (hf : FL own index 8 19) (hdg : decode cc pc = .ok (.putfield index, 3)) (hA : AOK B A) (hx : x = y) (kk : V D s0 own mn cc nL ret hh l R Z (pc + 3) lo st (HP A (pst σ p y)) cells slots) : V D s0 own mn cc nL ret hh l R Z pc lo (.int x :: .ref (A 20 0 0) :: st) (HP A (pst σ p w)) cells slots := by
  subst hx
  exact VP_20_19 hf hdg hA (V.eqG (congrArg (HP A) ps_w) kk)
theorem VPt {index p q : Nat} {w x : Int32} (hf : FL own index 8 20) (hdg : decode cc pc = .ok (.putfield index, 3)) (hA : AOK B A) (hx : x = nI q) (kk : V D s0 own mn cc nL ret hh l R Z (pc + 3) lo st (HP A (pst (w3 σ 20 0 20 (nI q)) p w)) cells slots) : V D s0 own mn cc nL ret hh l R Z pc lo (.int x :: .ref (A 20 0 0) :: st) (HP A (pst σ p w)) cells slots := by
  subst hx
  exact VP_20_20 hf hdg hA (V.eqG (congrArg (HP A) (ps_o (fun _ _ => ⟨by decide, by decide⟩))) kk)
theorem VAP_27 {p j : Nat} {w i x : Int32} (hdg : decode cc pc = .ok (.iastore, 1)) (hA : AOK B A) (hi : i = nI j) (hj : j < 32) (kk : V D s0 own mn cc nL ret hh l R Z (pc + 1) lo st (HP A (pst (w3 σ 27 0 j x) p w)) cells slots) : V D s0 own mn cc nL ret hh l R Z pc lo (.int x :: .int i :: .ref (A 27 0 0) :: st) (HP A (pst σ p w)) cells slots := VA_27 hdg hA hi hj (V.eqG (congrArg (HP A) (ps_o (fun q => absurd q (by decide)))) kk)
theorem VAP_28 {p j : Nat} {w i x : Int32} (hdg : decode cc pc = .ok (.iastore, 1)) (hA : AOK B A) (hi : i = nI j) (hj : j < 64) (kk : V D s0 own mn cc nL ret hh l R Z (pc + 1) lo st (HP A (pst (w3 σ 28 0 j x) p w)) cells slots) : V D s0 own mn cc nL ret hh l R Z pc lo (.int x :: .int i :: .ref (A 28 0 0) :: st) (HP A (pst σ p w)) cells slots := VA_28 hdg hA hi hj (V.eqG (congrArg (HP A) (ps_o (fun q => absurd q (by decide)))) kk)
end VPS
def sgn (t : Nat → Int32) (n p : Nat) : Int32 := if p < n then t p else -1
theorem m1_ne {q : Nat} (h : q < 1000) : ¬ nI q = -1 := fun z => by
  have e := congrArg Int32.toInt z
  rw [nI_toInt (by omega)] at e
  have : (-1 : Int32).toInt = -1 := by decide
  omega
theorem pK_sgn {t : Nat → Int32} {n p : Nat} : pK t n p = kIx (sgn t n p) := by
  unfold pK sgn
  split
  · rfl
  · decide

set_option maxHeartbeats 4000000 in
set_option maxRecDepth 100000 in
theorem t_X8_sign {D : va_G} {s0 : State} {l : Launch} {B : Nat} {A : AT} {σ : Sg} (hA : AOK B A) {t : Nat → Int32} {n p : Nat} {w : Int32} (ht : σ.1 25 0 = t) (hn : σ.1 20 0 17 = nI n) (hn6 : n ≤ 60) (hp : p < 990) : Tri D s0 l yX8_sign cX8_sign 1 ((some .int)) 0 0 0 [.ref (A 20 0 0)] (HP A (pst σ p w)) (fun r G' => r = some (.int (sgn t n p)) ∧ G' = HP A (pst σ p w)) noX := by
  refine Tri.ofV (own := RX8) (mn := "sign") (by decide +kernel) rfl rfl (Nat.le_of_ble_eq_true rfl) ?_
  refine V_aload_n (i := 0) dX8_sign_0 rfl rfl ?_
  refine V_getf fl_X8_184 dX8_sign_1 (hp20 hA) rfl ?_
  refine V_aload_n (i := 0) dX8_sign_4 rfl rfl ?_
  refine V_getf fl_X8_187 dX8_sign_5 (hp20 hA) rfl ?_
  refine V_icmp_ge (tgt := 23) dX8_sign_8 (by decide) (fun h8 => ?_) (fun h8 => ?_)
  · replace h8 : ¬ p < n := by rw [ps_18, ps_f (by decide) (by decide), hn, nI_leI (by omega) (by omega)] at h8; omega
    refine V_iconst (v := (-1)) dX8_sign_23 (by decide) ?_
    refine V_iret dX8_sign_24 rfl (Nat.le_of_ble_eq_true rfl) (Nat.le_of_ble_eq_true rfl) ?_
    first | (rw [sgn, if_pos h8]; exact ⟨rfl, rfl⟩) | (rw [sgn, if_neg h8]; exact ⟨rfl, rfl⟩)
  · replace h8 : p < n := by rw [ps_18, ps_f (by decide) (by decide), hn, nI_leI (by omega) (by omega)] at h8; omega
    refine V_aload_n (i := 0) dX8_sign_11 rfl rfl ?_
    refine V_getf fl_X8_22 dX8_sign_12 (hp20 hA) rfl ?_
    refine V_aload_n (i := 0) dX8_sign_15 rfl rfl ?_
    refine V_getf fl_X8_184 dX8_sign_16 (hp20 hA) rfl ?_
    refine V_iald9 dX8_sign_19 (hp25 hA) ps_18 (by omega) (by decide) (congrArg Value.int ((congrFun (congrFun (ps_a (by decide)) 0) _).trans (congrFun ht _))) ?_
    refine V_goto (tgt := 24) dX8_sign_20 (by decide) ?_
    refine V_iret dX8_sign_24 rfl (Nat.le_of_ble_eq_true rfl) (Nat.le_of_ble_eq_true rfl) ?_
    first | (rw [sgn, if_pos h8]; exact ⟨rfl, rfl⟩) | (rw [sgn, if_neg h8]; exact ⟨rfl, rfl⟩)

set_option maxHeartbeats 4000000 in
set_option maxRecDepth 100000 in
theorem t_X8_reads_y {D : va_G} {s0 : State} {l : Launch} {B : Nat} {A : AT} {σ : Sg} (hA : AOK B A) {t : Nat → Int32} {n p : Nat} (ht : σ.1 25 0 = t) (hn : σ.1 20 0 17 = nI n) (hn6 : n ≤ 60) (hp : p < 990) {a b : Int32} (hlt : p < n) (hin : ob (t p) a b = false) : Tri D s0 l yX8_reads cX8_reads 3 ((some .int)) 1 0 0 [.ref (A 20 0 0), .int a, .int b] (HP A (pst σ p (-1))) (fun r G' => r = some (.int (t p - 48)) ∧ G' = HP A (pst σ (p + 1) (-1))) noX := by
  refine Tri.ofV (own := RX8) (mn := "reads") (by decide +kernel) rfl rfl (Nat.le_of_ble_eq_true rfl) ?_
  refine V_aload_n (i := 0) dX8_reads_0 rfl rfl ?_
  refine V_getf fl_X8_190 dX8_reads_1 (hp20 hA) rfl ?_
  refine V_iconst (v := (-1)) dX8_reads_4 (by decide) ?_
  refine V_icmp_ne (tgt := 45) dX8_reads_5 (by decide) (fun h5 => by first | exact absurd h5 (ps_19) | exact absurd (ps_19) h5) (fun _ => ?_)
  refine V_aload_n (i := 0) dX8_reads_8 rfl rfl ?_
  refine Cv1_0 (d := 1) cv_X8_193 dX8_reads_9 (t_X8_sign hA ht hn hn6 hp) (hp20 hA) rfl rfl (Nat.le_of_ble_eq_true rfl) ⟨Nat.le_refl _, Nat.le_refl _⟩ (by decide) ⟨Nat.le_of_ble_eq_true rfl, Nat.le_of_ble_eq_true rfl⟩ ?_
  rw [show sgn t n p = t p from if_pos hlt]
  refine V_iload_n (i := 1) dX8_reads_12 rfl rfl ?_
  refine V_iload_n (i := 2) dX8_reads_13 rfl rfl ?_
  refine Cs1_3 (d := 1) cs_X8_66 dX8_reads_14 (t_X8_isIn hA) (Nat.le_of_ble_eq_true rfl) ⟨Nat.le_refl _, Nat.le_refl _⟩ (by decide) ⟨Nat.le_of_ble_eq_true rfl, Nat.le_of_ble_eq_true rfl⟩ ?_
  refine V_if_eq (tgt := 45) dX8_reads_17 (by decide) (fun h17 => by first | exact absurd h17 ((by rw [hin]; decide)) | exact absurd ((by rw [hin]; decide)) h17) (fun _ => ?_)
  refine V_aload_n (i := 0) dX8_reads_20 rfl rfl ?_
  refine V_dup dX8_reads_21 rfl ?_
  refine V_getf fl_X8_184 dX8_reads_22 (hp20 hA) rfl ?_
  refine V_iconst (v := 1) dX8_reads_25 (by decide) ?_
  refine V_iadd dX8_reads_26 ?_
  refine VPp (q := p + 1) fl_X8_184 dX8_reads_27 hA (by rw [ps_18]; exact nI_1 p) ?_
  refine V_aload_n (i := 0) dX8_reads_30 rfl rfl ?_
  refine V_getf fl_X8_22 dX8_reads_31 (hp20 hA) rfl ?_
  refine V_aload_n (i := 0) dX8_reads_34 rfl rfl ?_
  refine V_getf fl_X8_184 dX8_reads_35 (hp20 hA) rfl ?_
  refine V_iconst (v := 1) dX8_reads_38 (by decide) ?_
  refine V_isub dX8_reads_39 ?_
  refine V_iald9 dX8_reads_40 (hp25 hA) (show _ = nI p from by rw [ps_18]; exact pk_sub (a := p + 1) (b := 1) (by omega)) (by omega) (by decide) (congrArg Value.int ((congrFun (congrFun (ps_a (by decide)) 0) _).trans (congrFun ht _))) ?_
  refine V_bipush (v := 48) dX8_reads_41 (by decide) ?_
  refine V_isub dX8_reads_43 ?_
  refine V_iret dX8_reads_44 rfl (Nat.le_of_ble_eq_true rfl) (Nat.le_of_ble_eq_true rfl) ?_
  exact ⟨rfl, rfl⟩

set_option maxHeartbeats 4000000 in
set_option maxRecDepth 100000 in
theorem t_X8_reads_n {D : va_G} {s0 : State} {l : Launch} {B : Nat} {A : AT} {σ : Sg} (hA : AOK B A) {t : Nat → Int32} {n p : Nat} (ht : σ.1 25 0 = t) (hn : σ.1 20 0 17 = nI n) (hn6 : n ≤ 60) (hp : p < 990) {a b : Int32} (hin : ob (sgn t n p) a b = true) : Tri D s0 l yX8_reads cX8_reads 3 ((some .int)) 1 0 0 [.ref (A 20 0 0), .int a, .int b] (HP A (pst σ p (-1))) (fun r G' => r = some (.int 0) ∧ G' = HP A (pst σ p (nI p))) noX := by
  refine Tri.ofV (own := RX8) (mn := "reads") (by decide +kernel) rfl rfl (Nat.le_of_ble_eq_true rfl) ?_
  refine V_aload_n (i := 0) dX8_reads_0 rfl rfl ?_
  refine V_getf fl_X8_190 dX8_reads_1 (hp20 hA) rfl ?_
  refine V_iconst (v := (-1)) dX8_reads_4 (by decide) ?_
  refine V_icmp_ne (tgt := 45) dX8_reads_5 (by decide) (fun h5 => by first | exact absurd h5 (ps_19) | exact absurd (ps_19) h5) (fun _ => ?_)
  refine V_aload_n (i := 0) dX8_reads_8 rfl rfl ?_
  refine Cv1_0 (d := 1) cv_X8_193 dX8_reads_9 (t_X8_sign hA ht hn hn6 hp) (hp20 hA) rfl rfl (Nat.le_of_ble_eq_true rfl) ⟨Nat.le_refl _, Nat.le_refl _⟩ (by decide) ⟨Nat.le_of_ble_eq_true rfl, Nat.le_of_ble_eq_true rfl⟩ ?_
  refine V_iload_n (i := 1) dX8_reads_12 rfl rfl ?_
  refine V_iload_n (i := 2) dX8_reads_13 rfl rfl ?_
  refine Cs1_3 (d := 1) cs_X8_66 dX8_reads_14 (t_X8_isIn hA) (Nat.le_of_ble_eq_true rfl) ⟨Nat.le_refl _, Nat.le_refl _⟩ (by decide) ⟨Nat.le_of_ble_eq_true rfl, Nat.le_of_ble_eq_true rfl⟩ ?_
  refine V_if_eq (tgt := 45) dX8_reads_17 (by decide) (fun _ => ?_) (fun h17 => by first | exact absurd ((by rw [hin]; decide)) h17 | exact absurd h17 ((by rw [hin]; decide)))
  refine V_aload_n (i := 0) dX8_reads_45 rfl rfl ?_
  refine V_aload_n (i := 0) dX8_reads_46 rfl rfl ?_
  refine V_getf fl_X8_190 dX8_reads_47 (hp20 hA) rfl ?_
  refine V_iconst (v := (-1)) dX8_reads_50 (by decide) ?_
  refine V_icmp_ne (tgt := 61) dX8_reads_51 (by decide) (fun h51 => by first | exact absurd h51 (ps_19) | exact absurd (ps_19) h51) (fun _ => ?_)
  refine V_aload_n (i := 0) dX8_reads_54 rfl rfl ?_
  refine V_getf fl_X8_184 dX8_reads_55 (hp20 hA) rfl ?_
  refine V_goto (tgt := 65) dX8_reads_58 (by decide) ?_
  refine VPw fl_X8_190 dX8_reads_65 hA ps_18 ?_
  refine V_iconst (v := 0) dX8_reads_68 (by decide) ?_
  refine V_iret dX8_reads_69 rfl (Nat.le_of_ble_eq_true rfl) (Nat.le_of_ble_eq_true rfl) ?_
  exact ⟨rfl, rfl⟩

set_option maxHeartbeats 4000000 in
set_option maxRecDepth 100000 in
theorem t_X8_reads_w {D : va_G} {s0 : State} {l : Launch} {B : Nat} {A : AT} {σ : Sg} (hA : AOK B A) {t : Nat → Int32} {n p : Nat} {w : Int32} (ht : σ.1 25 0 = t) (hn : σ.1 20 0 17 = nI n) (hn6 : n ≤ 60) (hp : p < 990) {a b : Int32} (hw : ¬ w = -1) : Tri D s0 l yX8_reads cX8_reads 3 ((some .int)) 1 0 0 [.ref (A 20 0 0), .int a, .int b] (HP A (pst σ p w)) (fun r G' => r = some (.int 0) ∧ G' = HP A (pst σ p w)) noX := by
  refine Tri.ofV (own := RX8) (mn := "reads") (by decide +kernel) rfl rfl (Nat.le_of_ble_eq_true rfl) ?_
  refine V_aload_n (i := 0) dX8_reads_0 rfl rfl ?_
  refine V_getf fl_X8_190 dX8_reads_1 (hp20 hA) rfl ?_
  refine V_iconst (v := (-1)) dX8_reads_4 (by decide) ?_
  refine V_icmp_ne (tgt := 45) dX8_reads_5 (by decide) (fun _ => ?_) (fun h5 => by first | exact absurd ((fun q => hw (ps_19.symm.trans q))) h5 | exact absurd h5 ((fun q => hw (ps_19.symm.trans q))))
  refine V_aload_n (i := 0) dX8_reads_45 rfl rfl ?_
  refine V_aload_n (i := 0) dX8_reads_46 rfl rfl ?_
  refine V_getf fl_X8_190 dX8_reads_47 (hp20 hA) rfl ?_
  refine V_iconst (v := (-1)) dX8_reads_50 (by decide) ?_
  refine V_icmp_ne (tgt := 61) dX8_reads_51 (by decide) (fun _ => ?_) (fun h51 => by first | exact absurd ((fun q => hw (ps_19.symm.trans q))) h51 | exact absurd h51 ((fun q => hw (ps_19.symm.trans q))))
  refine V_aload_n (i := 0) dX8_reads_61 rfl rfl ?_
  refine V_getf fl_X8_190 dX8_reads_62 (hp20 hA) rfl ?_
  refine VPw fl_X8_190 dX8_reads_65 hA ps_19 ?_
  refine V_iconst (v := 0) dX8_reads_68 (by decide) ?_
  refine V_iret dX8_reads_69 rfl (Nat.le_of_ble_eq_true rfl) (Nat.le_of_ble_eq_true rfl) ?_
  exact ⟨rfl, rfl⟩

theorem dg_ob {t : Nat → Int32} {n p : Nat} : dgt t n p = !ob (sgn t n p) 48 57 := by
  unfold dgt sgn ob
  by_cases h : p < n
  · rw [if_pos h, decide_eq_true h]
    rw [Bool.eq_iff_iff]
    simp only [Bool.true_and, Bool.and_eq_true, decide_eq_true_eq, Bool.not_eq_true', Bool.or_eq_false_iff, decide_eq_false_iff_not, Int32.not_lt]
  · rw [if_neg h, decide_eq_false h]
    rfl
theorem dg_lt {t : Nat → Int32} {n p : Nat} (h : dgt t n p = true) : p < n := by
  simp only [dgt, Bool.and_eq_true, decide_eq_true_eq] at h
  exact h.1
theorem dg_in {t : Nat → Int32} {n p : Nat} (h : dgt t n p = true) : ob (t p) 48 57 = false := by
  have q := h
  rw [dg_ob, sgn, if_pos (dg_lt h)] at q
  simpa using q
theorem z10 (x : Int32) : 10 * (0 : Int32) + x - 48 = x - 48 := by
  rw [show 10 * (0 : Int32) = 0 from by decide, Int32.zero_add]
theorem z11 (x y : Int32) : 10 * (10 * (0 : Int32) + x - 48) + y - 48 = 10 * (x - 48) + (y - 48) := by
  rw [z10, Int32.sub_eq_add_neg (10 * (x - 48) + y), Int32.add_assoc, ← Int32.sub_eq_add_neg]

set_option maxHeartbeats 4000000 in
set_option maxRecDepth 100000 in
theorem t_X8_digits_n0 {D : va_G} {s0 : State} {l : Launch} {B : Nat} {A : AT} {σ : Sg} (hA : AOK B A) {t : Nat → Int32} {n p : Nat} (ht : σ.1 25 0 = t) (hn : σ.1 20 0 17 = nI n) (hn6 : n ≤ 60) (hp : p < 990) (hd : dgt t n p = false) : Tri D s0 l yX8_digits cX8_digits 3 ((some .int)) 2 0 0 [.ref (A 20 0 0), .int 0] (HP A (pst σ p (-1))) (fun r G' => r = some (.int 0) ∧ G' = HP A (pst σ p (nI p))) noX := by
  have hob : ob (sgn t n p) 48 57 = true := by
    rw [dg_ob] at hd
    simpa using hd
  refine Tri.ofV (own := RX8) (mn := "digits") (by decide +kernel) rfl rfl (Nat.le_of_ble_eq_true rfl) ?_
  refine V_aload_n (i := 0) dX8_digits_0 rfl rfl ?_
  refine V_bipush (v := 48) dX8_digits_1 (by decide) ?_
  refine V_bipush (v := 57) dX8_digits_3 (by decide) ?_
  refine Cv1_2 (d := 2) cv_X8_196 dX8_digits_5 (t_X8_reads_n hA ht hn hn6 hp hob) (hp20 hA) rfl rfl (Nat.le_of_ble_eq_true rfl) ⟨Nat.le_refl _, Nat.le_refl _⟩ (by decide) ⟨Nat.le_of_ble_eq_true rfl, Nat.le_of_ble_eq_true rfl⟩ ?_
  refine V_istore_n (i := 2) dX8_digits_8 rfl (by decide) ?_
  refine V_iload_n (i := 1) dX8_digits_9 rfl rfl ?_
  refine V_if_eq (tgt := 51) dX8_digits_10 (by decide) (fun _ => ?_) (fun h10 => by first | exact absurd ((by decide)) h10 | exact absurd h10 ((by decide)))
  refine V_iload_n (i := 2) dX8_digits_51 rfl rfl ?_
  refine V_iret dX8_digits_52 rfl (Nat.le_of_ble_eq_true rfl) (Nat.le_of_ble_eq_true rfl) ?_
  exact ⟨rfl, rfl⟩

set_option maxHeartbeats 4000000 in
set_option maxRecDepth 100000 in
theorem t_X8_digits_w0 {D : va_G} {s0 : State} {l : Launch} {B : Nat} {A : AT} {σ : Sg} (hA : AOK B A) {t : Nat → Int32} {n p : Nat} {w : Int32} (ht : σ.1 25 0 = t) (hn : σ.1 20 0 17 = nI n) (hn6 : n ≤ 60) (hp : p < 990) (hw : ¬ w = -1) : Tri D s0 l yX8_digits cX8_digits 3 ((some .int)) 2 0 0 [.ref (A 20 0 0), .int 0] (HP A (pst σ p w)) (fun r G' => r = some (.int 0) ∧ G' = HP A (pst σ p w)) noX := by
  refine Tri.ofV (own := RX8) (mn := "digits") (by decide +kernel) rfl rfl (Nat.le_of_ble_eq_true rfl) ?_
  refine V_aload_n (i := 0) dX8_digits_0 rfl rfl ?_
  refine V_bipush (v := 48) dX8_digits_1 (by decide) ?_
  refine V_bipush (v := 57) dX8_digits_3 (by decide) ?_
  refine Cv1_2 (d := 2) cv_X8_196 dX8_digits_5 (t_X8_reads_w hA ht hn hn6 hp hw) (hp20 hA) rfl rfl (Nat.le_of_ble_eq_true rfl) ⟨Nat.le_refl _, Nat.le_refl _⟩ (by decide) ⟨Nat.le_of_ble_eq_true rfl, Nat.le_of_ble_eq_true rfl⟩ ?_
  refine V_istore_n (i := 2) dX8_digits_8 rfl (by decide) ?_
  refine V_iload_n (i := 1) dX8_digits_9 rfl rfl ?_
  refine V_if_eq (tgt := 51) dX8_digits_10 (by decide) (fun _ => ?_) (fun h10 => by first | exact absurd ((by decide)) h10 | exact absurd h10 ((by decide)))
  refine V_iload_n (i := 2) dX8_digits_51 rfl rfl ?_
  refine V_iret dX8_digits_52 rfl (Nat.le_of_ble_eq_true rfl) (Nat.le_of_ble_eq_true rfl) ?_
  exact ⟨rfl, rfl⟩

set_option maxHeartbeats 4000000 in
set_option maxRecDepth 100000 in
theorem t_X8_digits_n1 {D : va_G} {s0 : State} {l : Launch} {B : Nat} {A : AT} {σ : Sg} (hA : AOK B A) {t : Nat → Int32} {n p : Nat} (ht : σ.1 25 0 = t) (hn : σ.1 20 0 17 = nI n) (hn6 : n ≤ 60) (hp : p < 990) (hd : dgt t n p = false) : Tri D s0 l yX8_digits cX8_digits 3 ((some .int)) 2 0 0 [.ref (A 20 0 0), .int 1] (HP A (pst σ p (-1))) (fun r G' => r = some (.int 0) ∧ G' = HP A (pst σ p (nI p))) noX := by
  have hob : ob (sgn t n p) 48 57 = true := by
    rw [dg_ob] at hd
    simpa using hd
  refine Tri.ofV (own := RX8) (mn := "digits") (by decide +kernel) rfl rfl (Nat.le_of_ble_eq_true rfl) ?_
  refine V_aload_n (i := 0) dX8_digits_0 rfl rfl ?_
  refine V_bipush (v := 48) dX8_digits_1 (by decide) ?_
  refine V_bipush (v := 57) dX8_digits_3 (by decide) ?_
  refine Cv1_2 (d := 2) cv_X8_196 dX8_digits_5 (t_X8_reads_n hA ht hn hn6 hp hob) (hp20 hA) rfl rfl (Nat.le_of_ble_eq_true rfl) ⟨Nat.le_refl _, Nat.le_refl _⟩ (by decide) ⟨Nat.le_of_ble_eq_true rfl, Nat.le_of_ble_eq_true rfl⟩ ?_
  refine V_istore_n (i := 2) dX8_digits_8 rfl (by decide) ?_
  refine V_iload_n (i := 1) dX8_digits_9 rfl rfl ?_
  refine V_if_eq (tgt := 51) dX8_digits_10 (by decide) (fun h10 => by first | exact absurd h10 ((by decide)) | exact absurd ((by decide)) h10) (fun _ => ?_)
  refine V_aload_n (i := 0) dX8_digits_13 rfl rfl ?_
  refine V_getf fl_X8_190 dX8_digits_14 (hp20 hA) rfl ?_
  refine V_iconst (v := (-1)) dX8_digits_17 (by decide) ?_
  refine V_icmp_ne (tgt := 51) dX8_digits_18 (by decide) (fun _ => ?_) (fun h18 => by first | exact absurd ((fun q => m1_ne (by omega) (ps_19.symm.trans q))) h18 | exact absurd h18 ((fun q => m1_ne (by omega) (ps_19.symm.trans q))))
  refine V_iload_n (i := 2) dX8_digits_51 rfl rfl ?_
  refine V_iret dX8_digits_52 rfl (Nat.le_of_ble_eq_true rfl) (Nat.le_of_ble_eq_true rfl) ?_
  exact ⟨rfl, rfl⟩

set_option maxHeartbeats 4000000 in
set_option maxRecDepth 100000 in
theorem t_X8_digits_w1 {D : va_G} {s0 : State} {l : Launch} {B : Nat} {A : AT} {σ : Sg} (hA : AOK B A) {t : Nat → Int32} {n p : Nat} {w : Int32} (ht : σ.1 25 0 = t) (hn : σ.1 20 0 17 = nI n) (hn6 : n ≤ 60) (hp : p < 990) (hw : ¬ w = -1) : Tri D s0 l yX8_digits cX8_digits 3 ((some .int)) 2 0 0 [.ref (A 20 0 0), .int 1] (HP A (pst σ p w)) (fun r G' => r = some (.int 0) ∧ G' = HP A (pst σ p w)) noX := by
  refine Tri.ofV (own := RX8) (mn := "digits") (by decide +kernel) rfl rfl (Nat.le_of_ble_eq_true rfl) ?_
  refine V_aload_n (i := 0) dX8_digits_0 rfl rfl ?_
  refine V_bipush (v := 48) dX8_digits_1 (by decide) ?_
  refine V_bipush (v := 57) dX8_digits_3 (by decide) ?_
  refine Cv1_2 (d := 2) cv_X8_196 dX8_digits_5 (t_X8_reads_w hA ht hn hn6 hp hw) (hp20 hA) rfl rfl (Nat.le_of_ble_eq_true rfl) ⟨Nat.le_refl _, Nat.le_refl _⟩ (by decide) ⟨Nat.le_of_ble_eq_true rfl, Nat.le_of_ble_eq_true rfl⟩ ?_
  refine V_istore_n (i := 2) dX8_digits_8 rfl (by decide) ?_
  refine V_iload_n (i := 1) dX8_digits_9 rfl rfl ?_
  refine V_if_eq (tgt := 51) dX8_digits_10 (by decide) (fun h10 => by first | exact absurd h10 ((by decide)) | exact absurd ((by decide)) h10) (fun _ => ?_)
  refine V_aload_n (i := 0) dX8_digits_13 rfl rfl ?_
  refine V_getf fl_X8_190 dX8_digits_14 (hp20 hA) rfl ?_
  refine V_iconst (v := (-1)) dX8_digits_17 (by decide) ?_
  refine V_icmp_ne (tgt := 51) dX8_digits_18 (by decide) (fun _ => ?_) (fun h18 => by first | exact absurd ((fun q => hw (ps_19.symm.trans q))) h18 | exact absurd h18 ((fun q => hw (ps_19.symm.trans q))))
  refine V_iload_n (i := 2) dX8_digits_51 rfl rfl ?_
  refine V_iret dX8_digits_52 rfl (Nat.le_of_ble_eq_true rfl) (Nat.le_of_ble_eq_true rfl) ?_
  exact ⟨rfl, rfl⟩

set_option maxHeartbeats 4000000 in
set_option maxRecDepth 100000 in
theorem t_X8_digits_y0 {D : va_G} {s0 : State} {l : Launch} {B : Nat} {A : AT} {σ : Sg} (hA : AOK B A) {t : Nat → Int32} {n p : Nat} (ht : σ.1 25 0 = t) (hn : σ.1 20 0 17 = nI n) (hn6 : n ≤ 60) (hp : p < 990) (hd : dgt t n p = true) : Tri D s0 l yX8_digits cX8_digits 3 ((some .int)) 2 0 0 [.ref (A 20 0 0), .int 0] (HP A (pst σ p (-1))) (fun r G' => r = some (.int (pNum t n 1 p 0).2) ∧ G' = HP A (pst σ (pNum t n 1 p 0).1 (-1))) noX := by
  refine Tri.ofV (own := RX8) (mn := "digits") (by decide +kernel) rfl rfl (Nat.le_of_ble_eq_true rfl) ?_
  refine V_aload_n (i := 0) dX8_digits_0 rfl rfl ?_
  refine V_bipush (v := 48) dX8_digits_1 (by decide) ?_
  refine V_bipush (v := 57) dX8_digits_3 (by decide) ?_
  refine Cv1_2 (d := 2) cv_X8_196 dX8_digits_5 (t_X8_reads_y hA ht hn hn6 hp (dg_lt hd) (dg_in hd)) (hp20 hA) rfl rfl (Nat.le_of_ble_eq_true rfl) ⟨Nat.le_refl _, Nat.le_refl _⟩ (by decide) ⟨Nat.le_of_ble_eq_true rfl, Nat.le_of_ble_eq_true rfl⟩ ?_
  refine V_istore_n (i := 2) dX8_digits_8 rfl (by decide) ?_
  refine V_iload_n (i := 1) dX8_digits_9 rfl rfl ?_
  refine V_if_eq (tgt := 51) dX8_digits_10 (by decide) (fun _ => ?_) (fun h10 => by first | exact absurd ((by decide)) h10 | exact absurd h10 ((by decide)))
  refine V_iload_n (i := 2) dX8_digits_51 rfl rfl ?_
  refine V_iret dX8_digits_52 rfl (Nat.le_of_ble_eq_true rfl) (Nat.le_of_ble_eq_true rfl) ?_
  rw [show pNum t n 1 p 0 = (p + 1, 10 * 0 + t p - 48) from by rw [pNum, if_pos hd]; rfl, z10]
  exact ⟨rfl, rfl⟩

set_option maxHeartbeats 4000000 in
set_option maxRecDepth 100000 in
theorem t_X8_digits_y1 {D : va_G} {s0 : State} {l : Launch} {B : Nat} {A : AT} {σ : Sg} (hA : AOK B A) {t : Nat → Int32} {n p : Nat} (ht : σ.1 25 0 = t) (hn : σ.1 20 0 17 = nI n) (hn6 : n ≤ 60) (hp : p < 990) (hd : dgt t n p = true) (hd2 : dgt t n (p + 1) = false) : Tri D s0 l yX8_digits cX8_digits 3 ((some .int)) 2 0 0 [.ref (A 20 0 0), .int 1] (HP A (pst σ p (-1))) (fun r G' => r = some (.int (pNum t n 2 p 0).2) ∧ G' = HP A (pst σ (pNum t n 2 p 0).1 (-1))) noX := by
  refine Tri.ofV (own := RX8) (mn := "digits") (by decide +kernel) rfl rfl (Nat.le_of_ble_eq_true rfl) ?_
  refine V_aload_n (i := 0) dX8_digits_0 rfl rfl ?_
  refine V_bipush (v := 48) dX8_digits_1 (by decide) ?_
  refine V_bipush (v := 57) dX8_digits_3 (by decide) ?_
  refine Cv1_2 (d := 2) cv_X8_196 dX8_digits_5 (t_X8_reads_y hA ht hn hn6 hp (dg_lt hd) (dg_in hd)) (hp20 hA) rfl rfl (Nat.le_of_ble_eq_true rfl) ⟨Nat.le_refl _, Nat.le_refl _⟩ (by decide) ⟨Nat.le_of_ble_eq_true rfl, Nat.le_of_ble_eq_true rfl⟩ ?_
  refine V_istore_n (i := 2) dX8_digits_8 rfl (by decide) ?_
  refine V_iload_n (i := 1) dX8_digits_9 rfl rfl ?_
  refine V_if_eq (tgt := 51) dX8_digits_10 (by decide) (fun h10 => by first | exact absurd h10 ((by decide)) | exact absurd ((by decide)) h10) (fun _ => ?_)
  refine V_aload_n (i := 0) dX8_digits_13 rfl rfl ?_
  refine V_getf fl_X8_190 dX8_digits_14 (hp20 hA) rfl ?_
  refine V_iconst (v := (-1)) dX8_digits_17 (by decide) ?_
  refine V_icmp_ne (tgt := 51) dX8_digits_18 (by decide) (fun h18 => by first | exact absurd h18 (ps_19) | exact absurd (ps_19) h18) (fun _ => ?_)
  refine V_aload_n (i := 0) dX8_digits_21 rfl rfl ?_
  refine Cv1_0 (d := 2) cv_X8_193 dX8_digits_22 (t_X8_sign hA ht hn hn6 (by have := dg_lt hd; omega)) (hp20 hA) rfl rfl (Nat.le_of_ble_eq_true rfl) ⟨Nat.le_refl _, Nat.le_refl _⟩ (by decide) ⟨Nat.le_of_ble_eq_true rfl, Nat.le_of_ble_eq_true rfl⟩ ?_
  refine V_bipush (v := 48) dX8_digits_25 (by decide) ?_
  refine V_bipush (v := 57) dX8_digits_27 (by decide) ?_
  refine Cs1_3 (d := 2) cs_X8_66 dX8_digits_29 (t_X8_isIn hA) (Nat.le_of_ble_eq_true rfl) ⟨Nat.le_refl _, Nat.le_refl _⟩ (by decide) ⟨Nat.le_of_ble_eq_true rfl, Nat.le_of_ble_eq_true rfl⟩ ?_
  refine V_if_eq (tgt := 51) dX8_digits_32 (by decide) (fun _ => ?_) (fun h32 => by first | exact absurd ((by rw [dg_ob] at hd2; rw [show ob (sgn t n (p + 1)) 48 57 = true from by simpa using hd2]; decide)) h32 | exact absurd h32 ((by rw [dg_ob] at hd2; rw [show ob (sgn t n (p + 1)) 48 57 = true from by simpa using hd2]; decide)))
  refine V_iload_n (i := 2) dX8_digits_51 rfl rfl ?_
  refine V_iret dX8_digits_52 rfl (Nat.le_of_ble_eq_true rfl) (Nat.le_of_ble_eq_true rfl) ?_
  rw [show pNum t n 2 p 0 = (p + 1, 10 * 0 + t p - 48) from by rw [pNum, if_pos hd, pNum, if_neg (by rw [hd2]; decide)], z10]
  exact ⟨rfl, rfl⟩

set_option maxHeartbeats 4000000 in
set_option maxRecDepth 100000 in
theorem t_X8_digits_y2 {D : va_G} {s0 : State} {l : Launch} {B : Nat} {A : AT} {σ : Sg} (hA : AOK B A) {t : Nat → Int32} {n p : Nat} (ht : σ.1 25 0 = t) (hn : σ.1 20 0 17 = nI n) (hn6 : n ≤ 60) (hp : p < 990) (hd : dgt t n p = true) (hd2 : dgt t n (p + 1) = true) : Tri D s0 l yX8_digits cX8_digits 3 ((some .int)) 2 0 0 [.ref (A 20 0 0), .int 1] (HP A (pst σ p (-1))) (fun r G' => r = some (.int (pNum t n 2 p 0).2) ∧ G' = HP A (pst σ (pNum t n 2 p 0).1 (-1))) noX := by
  refine Tri.ofV (own := RX8) (mn := "digits") (by decide +kernel) rfl rfl (Nat.le_of_ble_eq_true rfl) ?_
  refine V_aload_n (i := 0) dX8_digits_0 rfl rfl ?_
  refine V_bipush (v := 48) dX8_digits_1 (by decide) ?_
  refine V_bipush (v := 57) dX8_digits_3 (by decide) ?_
  refine Cv1_2 (d := 2) cv_X8_196 dX8_digits_5 (t_X8_reads_y hA ht hn hn6 hp (dg_lt hd) (dg_in hd)) (hp20 hA) rfl rfl (Nat.le_of_ble_eq_true rfl) ⟨Nat.le_refl _, Nat.le_refl _⟩ (by decide) ⟨Nat.le_of_ble_eq_true rfl, Nat.le_of_ble_eq_true rfl⟩ ?_
  refine V_istore_n (i := 2) dX8_digits_8 rfl (by decide) ?_
  refine V_iload_n (i := 1) dX8_digits_9 rfl rfl ?_
  refine V_if_eq (tgt := 51) dX8_digits_10 (by decide) (fun h10 => by first | exact absurd h10 ((by decide)) | exact absurd ((by decide)) h10) (fun _ => ?_)
  refine V_aload_n (i := 0) dX8_digits_13 rfl rfl ?_
  refine V_getf fl_X8_190 dX8_digits_14 (hp20 hA) rfl ?_
  refine V_iconst (v := (-1)) dX8_digits_17 (by decide) ?_
  refine V_icmp_ne (tgt := 51) dX8_digits_18 (by decide) (fun h18 => by first | exact absurd h18 (ps_19) | exact absurd (ps_19) h18) (fun _ => ?_)
  refine V_aload_n (i := 0) dX8_digits_21 rfl rfl ?_
  refine Cv1_0 (d := 2) cv_X8_193 dX8_digits_22 (t_X8_sign hA ht hn hn6 (by have := dg_lt hd; omega)) (hp20 hA) rfl rfl (Nat.le_of_ble_eq_true rfl) ⟨Nat.le_refl _, Nat.le_refl _⟩ (by decide) ⟨Nat.le_of_ble_eq_true rfl, Nat.le_of_ble_eq_true rfl⟩ ?_
  refine V_bipush (v := 48) dX8_digits_25 (by decide) ?_
  refine V_bipush (v := 57) dX8_digits_27 (by decide) ?_
  refine Cs1_3 (d := 2) cs_X8_66 dX8_digits_29 (t_X8_isIn hA) (Nat.le_of_ble_eq_true rfl) ⟨Nat.le_refl _, Nat.le_refl _⟩ (by decide) ⟨Nat.le_of_ble_eq_true rfl, Nat.le_of_ble_eq_true rfl⟩ ?_
  refine V_if_eq (tgt := 51) dX8_digits_32 (by decide) (fun h32 => by first | exact absurd h32 ((by rw [dg_ob] at hd2; rw [show ob (sgn t n (p + 1)) 48 57 = false from by simpa using hd2]; decide)) | exact absurd ((by rw [dg_ob] at hd2; rw [show ob (sgn t n (p + 1)) 48 57 = false from by simpa using hd2]; decide)) h32) (fun _ => ?_)
  refine V_bipush (v := 10) dX8_digits_35 (by decide) ?_
  refine V_iload_n (i := 2) dX8_digits_37 rfl rfl ?_
  refine V_imul dX8_digits_38 ?_
  refine V_aload_n (i := 0) dX8_digits_39 rfl rfl ?_
  refine V_bipush (v := 48) dX8_digits_40 (by decide) ?_
  refine V_bipush (v := 57) dX8_digits_42 (by decide) ?_
  refine Cv1_2 (d := 2) cv_X8_196 dX8_digits_44 (t_X8_reads_y hA ht hn hn6 (by have := dg_lt hd; omega) (dg_lt hd2) (dg_in hd2)) (hp20 hA) rfl rfl (Nat.le_of_ble_eq_true rfl) ⟨Nat.le_refl _, Nat.le_refl _⟩ (by decide) ⟨Nat.le_of_ble_eq_true rfl, Nat.le_of_ble_eq_true rfl⟩ ?_
  refine V_iadd dX8_digits_47 ?_
  refine V_goto (tgt := 52) dX8_digits_48 (by decide) ?_
  refine V_iret dX8_digits_52 rfl (Nat.le_of_ble_eq_true rfl) (Nat.le_of_ble_eq_true rfl) ?_
  rw [show pNum t n 2 p 0 = (p + 1 + 1, 10 * (10 * 0 + t p - 48) + t (p + 1) - 48) from by rw [pNum, if_pos hd, pNum, if_pos hd2]; rfl, z11]
  exact ⟨rfl, rfl⟩

/-- the digits: m of them at most -/
theorem t_X8_digits {D : va_G} {s0 : State} {l : Launch} {B : Nat} {A : AT} {σ : Sg} (hA : AOK B A) {t : Nat → Int32} {n p : Nat} (ht : σ.1 25 0 = t) (hn : σ.1 20 0 17 = nI n) (hn6 : n ≤ 60) (hp : p < 990) {m : Nat} (hm : m = 1 ∨ m = 2) {b : Int32} (hb : b = if m = 2 then 1 else 0) : Tri D s0 l yX8_digits cX8_digits 3 ((some .int)) 2 0 0 [.ref (A 20 0 0), .int b] (HP A (pst σ p (-1))) (fun r G' => r = some (.int (if (pNum t n m p 0).1 = p then 0 else (pNum t n m p 0).2)) ∧ G' = HP A (if (pNum t n m p 0).1 = p then pst σ p (nI p) else pst σ (pNum t n m p 0).1 (-1))) noX := by
  subst hb
  by_cases hd : dgt t n p = true
  · have hne : ¬ (pNum t n m p 0).1 = p := by
      have q : ∀ v, p + 1 ≤ (pNum t n (m - 1) (p + 1) v).1 := fun v => (pNum_le (t := t) (n := n) (m - 1) (p + 1) v).1
      have z := q (10 * 0 + t p - 48)
      rw [show m = (m - 1) + 1 by omega, pNum, if_pos hd]
      omega
    rw [if_neg hne, if_neg hne]
    rcases hm with rfl | rfl
    · exact t_X8_digits_y0 hA ht hn hn6 hp hd
    · by_cases hd2 : dgt t n (p + 1) = true
      · exact t_X8_digits_y2 hA ht hn hn6 hp hd hd2
      · exact t_X8_digits_y1 hA ht hn hn6 hp hd (Bool.eq_false_iff.mpr hd2)
  · have he : (pNum t n m p 0).1 = p := by rw [show m = (m - 1) + 1 by omega, pNum, if_neg hd]
    rw [if_pos he, if_pos he]
    rcases hm with rfl | rfl
    · exact t_X8_digits_n0 hA ht hn hn6 hp (Bool.eq_false_iff.mpr hd)
    · exact t_X8_digits_n1 hA ht hn hn6 hp (Bool.eq_false_iff.mpr hd)

def fnS (x : Int32) : Nat → Nat × Bool
  | 0 => (0, false)
  | i + 1 => if x = letF i then (i, true) else fnS x i
theorem fn_k {x : Int32} : fnS x 8 = if kIx x = 8 then (0, false) else (kIx x, true) := by
  rcases kIx_cases x with h | h | h | h | h | h | h | h | h
  any_goals (rw [h]; decide +kernel)
  rw [if_pos h]
  have q : ∀ i, i < 8 → ¬ x = letF i := fun i hi e => by
    rcases (by omega : i = 0 ∨ i = 1 ∨ i = 2 ∨ i = 3 ∨ i = 4 ∨ i = 5 ∨ i = 6 ∨ i = 7) with rfl | rfl | rfl | rfl | rfl | rfl | rfl | rfl <;> (rw [e] at h; revert h; decide +kernel)
  simp only [fnS, if_neg (q 7 (by decide)), if_neg (q 6 (by decide)), if_neg (q 5 (by decide)), if_neg (q 4 (by decide)), if_neg (q 3 (by decide)), if_neg (q 2 (by decide)), if_neg (q 1 (by decide)), if_neg (q 0 (by decide))]
theorem let_c {k : Nat} (hk : k < 8) : ((letF k &&& 255).toUInt32 % 65536).toInt32 = letF k ∧ narrow .char (.int (letF k)) = .int (letF k) := by
  rcases (by omega : k = 0 ∨ k = 1 ∨ k = 2 ∨ k = 3 ∨ k = 4 ∨ k = 5 ∨ k = 6 ∨ k = 7) with rfl | rfl | rfl | rfl | rfl | rfl | rfl | rfl <;> (constructor <;> decide +kernel)

set_option maxHeartbeats 4000000 in
set_option maxRecDepth 100000 in
theorem t_X8_kind {D : va_G} {s0 : State} {l : Launch} {B : Nat} {A : AT} {σ : Sg} (hA : AOK B A) {t : Nat → Int32} {n p : Nat} (ht : σ.1 25 0 = t) (hn : σ.1 20 0 17 = nI n) (hn6 : n ≤ 60) (hp : p < 990) : Tri D s0 l yX8_kind cX8_kind 5 ((some .int)) 5 0 0 [.ref (A 20 0 0)] (HP A (pst σ p (-1))) (fun r G' => r = some (.int (nI (if kIx (sgn t n p) = 8 then 0 else kIx (sgn t n p)))) ∧ G' = HP A (if kIx (sgn t n p) = 8 then pst σ p (nI p) else pst σ (p + 1) (-1))) noX := by
  refine tr_fr (fun h0 => ?_)
  obtain ⟨sa, sv, hR, hs⟩ := h0.let_X8
  refine Tri.ofV (own := RX8) (mn := "kind") (by decide +kernel) rfl rfl (Nat.le_of_ble_eq_true rfl) ?_
  have loop : ∀ m i : Nat, i + m = 8 → V D s0 RX8 "kind" cX8_kind 5 ((some .int)) [] l (rmd 5 0 0) (Zm D s0 0 0 (fun r G' => r = some (.int (nI (if kIx (sgn t n p) = 8 then 0 else kIx (sgn t n p)))) ∧ G' = HP A (if kIx (sgn t n p) = 8 then pst σ p (nI p) else pst σ (p + 1) (-1))) noX) 6 [(0, .ref (A 20 0 0)), (1, .int (nI (fnS (sgn t n p) i).1)), (2, .int (bi (fnS (sgn t n p) i).2)), (3, .int (nI i))] [] (HP A (pst σ p (-1))) 0 0 := by
    intro m
    induction m with
    | zero =>
      intro i hi9
      obtain rfl : i = 8 := by omega
      by_cases hk : kIx (sgn t n p) = 8
      · rw [show fnS (sgn t n p) 8 = (0, false) from by rw [fn_k, if_pos hk]]
        refine V_iload_n (i := 3) dX8_kind_6 rfl rfl ?_
        refine V_bipush (v := nI 8) dX8_kind_7 (by decide) ?_
        refine V_icmp_ge (tgt := 64) dX8_kind_9 (by decide) (fun _ => ?_) (fun h9 => by first | exact absurd (nI_le (Nat.le_refl 8) (by decide)) h9 | exact absurd h9 (nI_le (Nat.le_refl 8) (by decide)))
        refine V_aload_n (i := 0) dX8_kind_64 rfl rfl ?_
        refine V_iload_n (i := 2) dX8_kind_65 rfl rfl ?_
        refine V_if_ne (tgt := 77) dX8_kind_66 (by decide) (fun h66 => by first | exact absurd h66 (rfl) | exact absurd (rfl) h66) (fun _ => ?_)
        refine V_aload_n (i := 0) dX8_kind_69 rfl rfl ?_
        refine V_getf fl_X8_190 dX8_kind_70 (hp20 hA) rfl ?_
        refine V_iconst (v := (-1)) dX8_kind_73 (by decide) ?_
        refine V_icmp_eq (tgt := 84) dX8_kind_74 (by decide) (fun _ => ?_) (fun h74 => by first | exact absurd (ps_19) h74 | exact absurd h74 (ps_19))
        refine V_aload_n (i := 0) dX8_kind_84 rfl rfl ?_
        refine V_getf fl_X8_184 dX8_kind_85 (hp20 hA) rfl ?_
        refine VPw fl_X8_190 dX8_kind_88 hA ps_18 ?_
        refine V_aload_n (i := 0) dX8_kind_91 rfl rfl ?_
        refine V_dup dX8_kind_92 rfl ?_
        refine V_getf fl_X8_184 dX8_kind_93 (hp20 hA) rfl ?_
        refine V_iload_n (i := 2) dX8_kind_96 rfl rfl ?_
        refine V_if_eq (tgt := 104) dX8_kind_97 (by decide) (fun _ => ?_) (fun h97 => by first | exact absurd (rfl) h97 | exact absurd h97 (rfl))
        refine V_iconst (v := 0) dX8_kind_104 (by decide) ?_
        refine V_iadd dX8_kind_105 ?_
        refine VPp (q := p) fl_X8_184 dX8_kind_106 hA (by rw [ps_18]; exact Int32.add_zero _) ?_
        refine V_iload_n (i := 1) dX8_kind_109 rfl rfl ?_
        refine V_iret dX8_kind_110 rfl (Nat.le_of_ble_eq_true rfl) (Nat.le_of_ble_eq_true rfl) ?_
        rw [if_pos hk, if_pos hk]
        exact ⟨rfl, rfl⟩
      · rw [show fnS (sgn t n p) 8 = (kIx (sgn t n p), true) from by rw [fn_k, if_neg hk]]
        refine V_iload_n (i := 3) dX8_kind_6 rfl rfl ?_
        refine V_bipush (v := nI 8) dX8_kind_7 (by decide) ?_
        refine V_icmp_ge (tgt := 64) dX8_kind_9 (by decide) (fun _ => ?_) (fun h9 => by first | exact absurd (nI_le (Nat.le_refl 8) (by decide)) h9 | exact absurd h9 (nI_le (Nat.le_refl 8) (by decide)))
        refine V_aload_n (i := 0) dX8_kind_64 rfl rfl ?_
        refine V_iload_n (i := 2) dX8_kind_65 rfl rfl ?_
        refine V_if_ne (tgt := 77) dX8_kind_66 (by decide) (fun _ => ?_) (fun h66 => by first | exact absurd ((show ¬ (1 : Int32) = 0 from by decide)) h66 | exact absurd h66 ((show ¬ (1 : Int32) = 0 from by decide)))
        refine V_aload_n (i := 0) dX8_kind_77 rfl rfl ?_
        refine V_getf fl_X8_190 dX8_kind_78 (hp20 hA) rfl ?_
        refine V_goto (tgt := 88) dX8_kind_81 (by decide) ?_
        refine VPw fl_X8_190 dX8_kind_88 hA ps_19 ?_
        refine V_aload_n (i := 0) dX8_kind_91 rfl rfl ?_
        refine V_dup dX8_kind_92 rfl ?_
        refine V_getf fl_X8_184 dX8_kind_93 (hp20 hA) rfl ?_
        refine V_iload_n (i := 2) dX8_kind_96 rfl rfl ?_
        refine V_if_eq (tgt := 104) dX8_kind_97 (by decide) (fun h97 => by first | exact absurd h97 ((show ¬ (1 : Int32) = 0 from by decide)) | exact absurd ((show ¬ (1 : Int32) = 0 from by decide)) h97) (fun _ => ?_)
        refine V_iconst (v := 1) dX8_kind_100 (by decide) ?_
        refine V_goto (tgt := 105) dX8_kind_101 (by decide) ?_
        refine V_iadd dX8_kind_105 ?_
        refine VPp (q := p + 1) fl_X8_184 dX8_kind_106 hA (by rw [ps_18]; exact nI_1 p) ?_
        refine V_iload_n (i := 1) dX8_kind_109 rfl rfl ?_
        refine V_iret dX8_kind_110 rfl (Nat.le_of_ble_eq_true rfl) (Nat.le_of_ble_eq_true rfl) ?_
        rw [if_neg hk, if_neg hk]
        exact ⟨rfl, rfl⟩
    | succ m ih =>
      intro i hi9
      have k9 := ih (i + 1) (by omega)
      by_cases hx : (sgn t n p) = letF i
      · rw [fnS, if_pos hx] at k9
        refine V_iload_n (i := 3) dX8_kind_6 rfl rfl ?_
        refine V_bipush (v := nI 8) dX8_kind_7 (by decide) ?_
        refine V_icmp_ge (tgt := 64) dX8_kind_9 (by decide) (fun h9 => by first | exact absurd h9 (nI_ge (by omega) (by decide)) | exact absurd (nI_ge (by omega) (by decide)) h9) (fun _ => ?_)
        refine V_aload_n (i := 0) dX8_kind_12 rfl rfl ?_
        refine Cv1_0 (d := 5) cv_X8_193 dX8_kind_13 (t_X8_sign hA ht hn hn6 hp) (hp20 hA) rfl rfl (Nat.le_of_ble_eq_true rfl) ⟨Nat.le_refl _, Nat.le_refl _⟩ (by decide) ⟨Nat.le_of_ble_eq_true rfl, Nat.le_of_ble_eq_true rfl⟩ ?_
        refine V_ldcS hR dX8_kind_16 ?_
        refine V_iload_n (i := 3) dX8_kind_18 rfl rfl ?_
        refine Cb1_1 (d := 5) cv_X8_201 dX8_kind_19 (t_J0_charAt_5068e hs (by decide) (by omega) (let_c (by omega))) hs.1 (Nat.le_of_ble_eq_true rfl) ⟨Nat.le_refl _, Nat.le_refl _⟩ (by decide) ⟨Nat.le_of_ble_eq_true rfl, Nat.le_of_ble_eq_true rfl⟩ ?_
        refine V_icmp_ne (tgt := 29) dX8_kind_22 (by decide) (fun h22 => by first | exact absurd h22 (hx) | exact absurd (hx) h22) (fun _ => ?_)
        refine V_iconst (v := 1) dX8_kind_25 (by decide) ?_
        refine V_goto (tgt := 30) dX8_kind_26 (by decide) ?_
        refine V_istore (i := 4) dX8_kind_30 (by decide) ?_
        refine V_iload (i := 4) dX8_kind_32 rfl ?_
        refine V_if_eq (tgt := 41) dX8_kind_34 (by decide) (fun h34 => by first | exact absurd h34 ((by decide)) | exact absurd ((by decide)) h34) (fun _ => ?_)
        refine V_iload_n (i := 3) dX8_kind_37 rfl rfl ?_
        refine V_goto (tgt := 42) dX8_kind_38 (by decide) ?_
        refine V_istore_n (i := 1) dX8_kind_42 rfl (by decide) ?_
        refine V_iload_n (i := 2) dX8_kind_43 rfl rfl ?_
        refine V_if_ne (tgt := 52) dX8_kind_44 (by decide) (fun h44 => ?_) (fun h44 => ?_)
        · refine V_iconst (v := 1) dX8_kind_52 (by decide) ?_
          refine V_goto (tgt := 57) dX8_kind_53 (by decide) ?_
          refine V_istore_n (i := 2) dX8_kind_57 rfl (by decide) ?_
          refine V_iinc (i := 3) dX8_kind_58 rfl (inc1 _) (by decide) ?_
          refine V_goto (tgt := 6) dX8_kind_61 (by decide) ?_
          exact V.fin [4, 2, 1, 0] rfl rfl k9
        · refine V_iload (i := 4) dX8_kind_47 rfl ?_
          refine V_if_eq (tgt := 56) dX8_kind_49 (by decide) (fun h49 => by first | exact absurd h49 ((by decide)) | exact absurd ((by decide)) h49) (fun _ => ?_)
          refine V_iconst (v := 1) dX8_kind_52 (by decide) ?_
          refine V_goto (tgt := 57) dX8_kind_53 (by decide) ?_
          refine V_istore_n (i := 2) dX8_kind_57 rfl (by decide) ?_
          refine V_iinc (i := 3) dX8_kind_58 rfl (inc1 _) (by decide) ?_
          refine V_goto (tgt := 6) dX8_kind_61 (by decide) ?_
          exact V.fin [4, 2, 1, 0] rfl rfl k9
      · rw [fnS, if_neg hx] at k9
        cases hb : (fnS (sgn t n p) i).2 with
        | false =>
          rw [hb] at k9
          refine V_iload_n (i := 3) dX8_kind_6 rfl rfl ?_
          refine V_bipush (v := nI 8) dX8_kind_7 (by decide) ?_
          refine V_icmp_ge (tgt := 64) dX8_kind_9 (by decide) (fun h9 => by first | exact absurd h9 (nI_ge (by omega) (by decide)) | exact absurd (nI_ge (by omega) (by decide)) h9) (fun _ => ?_)
          refine V_aload_n (i := 0) dX8_kind_12 rfl rfl ?_
          refine Cv1_0 (d := 5) cv_X8_193 dX8_kind_13 (t_X8_sign hA ht hn hn6 hp) (hp20 hA) rfl rfl (Nat.le_of_ble_eq_true rfl) ⟨Nat.le_refl _, Nat.le_refl _⟩ (by decide) ⟨Nat.le_of_ble_eq_true rfl, Nat.le_of_ble_eq_true rfl⟩ ?_
          refine V_ldcS hR dX8_kind_16 ?_
          refine V_iload_n (i := 3) dX8_kind_18 rfl rfl ?_
          refine Cb1_1 (d := 5) cv_X8_201 dX8_kind_19 (t_J0_charAt_5068e hs (by decide) (by omega) (let_c (by omega))) hs.1 (Nat.le_of_ble_eq_true rfl) ⟨Nat.le_refl _, Nat.le_refl _⟩ (by decide) ⟨Nat.le_of_ble_eq_true rfl, Nat.le_of_ble_eq_true rfl⟩ ?_
          refine V_icmp_ne (tgt := 29) dX8_kind_22 (by decide) (fun _ => ?_) (fun h22 => by first | exact absurd (hx) h22 | exact absurd h22 (hx))
          refine V_iconst (v := 0) dX8_kind_29 (by decide) ?_
          refine V_istore (i := 4) dX8_kind_30 (by decide) ?_
          refine V_iload (i := 4) dX8_kind_32 rfl ?_
          refine V_if_eq (tgt := 41) dX8_kind_34 (by decide) (fun _ => ?_) (fun h34 => by first | exact absurd (rfl) h34 | exact absurd h34 (rfl))
          refine V_iload_n (i := 1) dX8_kind_41 rfl rfl ?_
          refine V_istore_n (i := 1) dX8_kind_42 rfl (by decide) ?_
          refine V_iload_n (i := 2) dX8_kind_43 rfl rfl ?_
          refine V_if_ne (tgt := 52) dX8_kind_44 (by decide) (fun h44 => by first | exact absurd h44 (rfl) | exact absurd (rfl) h44) (fun _ => ?_)
          refine V_iload (i := 4) dX8_kind_47 rfl ?_
          refine V_if_eq (tgt := 56) dX8_kind_49 (by decide) (fun _ => ?_) (fun h49 => by first | exact absurd (rfl) h49 | exact absurd h49 (rfl))
          refine V_iconst (v := 0) dX8_kind_56 (by decide) ?_
          refine V_istore_n (i := 2) dX8_kind_57 rfl (by decide) ?_
          refine V_iinc (i := 3) dX8_kind_58 rfl (inc1 _) (by decide) ?_
          refine V_goto (tgt := 6) dX8_kind_61 (by decide) ?_
          exact V.fin [4, 2, 1, 0] rfl rfl k9
        | true =>
          rw [hb] at k9
          refine V_iload_n (i := 3) dX8_kind_6 rfl rfl ?_
          refine V_bipush (v := nI 8) dX8_kind_7 (by decide) ?_
          refine V_icmp_ge (tgt := 64) dX8_kind_9 (by decide) (fun h9 => by first | exact absurd h9 (nI_ge (by omega) (by decide)) | exact absurd (nI_ge (by omega) (by decide)) h9) (fun _ => ?_)
          refine V_aload_n (i := 0) dX8_kind_12 rfl rfl ?_
          refine Cv1_0 (d := 5) cv_X8_193 dX8_kind_13 (t_X8_sign hA ht hn hn6 hp) (hp20 hA) rfl rfl (Nat.le_of_ble_eq_true rfl) ⟨Nat.le_refl _, Nat.le_refl _⟩ (by decide) ⟨Nat.le_of_ble_eq_true rfl, Nat.le_of_ble_eq_true rfl⟩ ?_
          refine V_ldcS hR dX8_kind_16 ?_
          refine V_iload_n (i := 3) dX8_kind_18 rfl rfl ?_
          refine Cb1_1 (d := 5) cv_X8_201 dX8_kind_19 (t_J0_charAt_5068e hs (by decide) (by omega) (let_c (by omega))) hs.1 (Nat.le_of_ble_eq_true rfl) ⟨Nat.le_refl _, Nat.le_refl _⟩ (by decide) ⟨Nat.le_of_ble_eq_true rfl, Nat.le_of_ble_eq_true rfl⟩ ?_
          refine V_icmp_ne (tgt := 29) dX8_kind_22 (by decide) (fun _ => ?_) (fun h22 => by first | exact absurd (hx) h22 | exact absurd h22 (hx))
          refine V_iconst (v := 0) dX8_kind_29 (by decide) ?_
          refine V_istore (i := 4) dX8_kind_30 (by decide) ?_
          refine V_iload (i := 4) dX8_kind_32 rfl ?_
          refine V_if_eq (tgt := 41) dX8_kind_34 (by decide) (fun _ => ?_) (fun h34 => by first | exact absurd (rfl) h34 | exact absurd h34 (rfl))
          refine V_iload_n (i := 1) dX8_kind_41 rfl rfl ?_
          refine V_istore_n (i := 1) dX8_kind_42 rfl (by decide) ?_
          refine V_iload_n (i := 2) dX8_kind_43 rfl rfl ?_
          refine V_if_ne (tgt := 52) dX8_kind_44 (by decide) (fun _ => ?_) (fun h44 => by first | exact absurd ((by decide)) h44 | exact absurd h44 ((by decide)))
          refine V_iconst (v := 1) dX8_kind_52 (by decide) ?_
          refine V_goto (tgt := 57) dX8_kind_53 (by decide) ?_
          refine V_istore_n (i := 2) dX8_kind_57 rfl (by decide) ?_
          refine V_iinc (i := 3) dX8_kind_58 rfl (inc1 _) (by decide) ?_
          refine V_goto (tgt := 6) dX8_kind_61 (by decide) ?_
          exact V.fin [4, 2, 1, 0] rfl rfl k9
  refine V_iconst (v := nI 0) dX8_kind_0 (by decide) ?_
  refine V_istore_n (i := 1) dX8_kind_1 rfl (by decide) ?_
  refine V_iconst (v := 0) dX8_kind_2 (by decide) ?_
  refine V_istore_n (i := 2) dX8_kind_3 rfl (by decide) ?_
  refine V_iconst (v := nI 0) dX8_kind_4 (by decide) ?_
  refine V_istore_n (i := 3) dX8_kind_5 rfl (by decide) ?_
  exact V.fin [3, 2, 1, 0] rfl rfl (loop 8 0 (by omega))

