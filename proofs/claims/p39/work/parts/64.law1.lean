/-! the law: a cell of the script, a pick, a sum -/
/-- an answer of which P is known; nothing has changed -/
def IvA (G : GH) (P : Int32 → Prop) : Option Value → GH → Prop := fun r G' => ∃ v : Int32, r = some (.int v) ∧ P v ∧ G' = G
def PkP (n : Nat) (x : Int32) : Prop := ∃ v, v < n ∧ x = nI v
section V64
variable {D : va_G} {s0 : State} {own mn : String} {cc : ByteArray} {nL : Nat} {ret : Option FieldType} {hh : List (Nat × Nat × Nat × Nat)} {l : Launch} {R : Room} {Z : ZT} {pc : Nat} {lo : List (Nat × Value)} {st : List Value} {G : GH} {cells slots : Nat}
theorem V_callsE {index d d' mc' ms' n nL' : Nat} {y : MethodName} {cc' : ByteArray} {ret' : Option FieldType} {as : List Value} {P : Int32 → Prop} {st0 : List Value} (hC : CS own index y cc' nL' ret' n) (hdg : decode cc pc = .ok (.invokestatic index, 3)) (hM : Tri D s0 l y cc' nL' ret' d' mc' ms' as G (IvA G P) noX) (hn : as.length = n) (hst : st0 = as.reverse ++ st) (hW : (st.map fun v => v.category).sum ≤ 8) (hR : d + 5 ≤ R.frames ∧ 35 * d + 120 ≤ R.locals) (hd : d' < d) (hf : cells + mc' ≤ R.cells ∧ slots + ms' ≤ R.slots)
    (kk : ∀ v, P v → V D s0 own mn cc nL ret hh l R Z (pc + 3) lo (.int v :: st) G (cells + mc') (slots + ms')) : V D s0 own mn cc nL ret hh l R Z pc lo st0 G cells slots :=
  V_calls hC hdg hM hn hst hW hR hd hf (fun r G' h => by obtain ⟨v, rfl, hv, rfl⟩ := h; exact kk v hv) (fun _ _ h => h.elim)
end V64
theorem ushr8 (x : Int32) : ∃ v, v < 16777216 ∧ (x.toUInt32 >>> ((nI 8).toUInt32 &&& Int32.toUInt32 31)).toInt32 = nI v := by
  refine ⟨(x.toUInt32 >>> ((nI 8).toUInt32 &&& Int32.toUInt32 31)).toNat, ?_, ?_⟩
  · rw [show ((nI 8).toUInt32 &&& Int32.toUInt32 31) = 8 from by decide, UInt32.toNat_shiftRight, Nat.shiftRight_eq_div_pow]
    have := x.toUInt32.toNat_lt
    have e : (8 : UInt32).toNat % 32 = 8 := by decide
    rw [e]
    omega
  · generalize (x.toUInt32 >>> ((nI 8).toUInt32 &&& Int32.toUInt32 31)) = u
    unfold nI
    refine Int32.toBitVec_inj.mp ?_
    simp [Int32.ofNat]
    rfl

set_option maxHeartbeats 4000000 in
set_option maxRecDepth 100000 in
theorem t_L_cell {D : va_G} {s0 : State} {l : Launch} {B : Nat} {A : AT} {σ : Sg} (hA : AOK B A) {b L : Nat} {xs : Nat → Int32} (hT : va_T .int b L (fun j => .int (xs j)) (bA s0) s0 s0.heap) (hL : L ≤ 260) {xi : Int32} {i : Nat} (hi : xi = nI i) (hi9 : i < 1000) : Tri D s0 l yL_cell cL_cell 3 ((some .int)) 0 0 0 [.ref b, .int xi] (HP A σ) (IvA (HP A σ) (fun _ => True)) noX := by
  refine Tri.ofV (own := RL) (mn := "cell") (by decide +kernel) rfl rfl (Nat.le_of_ble_eq_true rfl) ?_
  subst hi
  have key : ∀ v : Int32, V D s0 RL "cell" cL_cell 3 ((some .int)) [] l (rmd 0 0 0) (Zm D s0 0 0 (IvA (HP A σ) (fun _ => True)) noX) 15 [(0, .ref b), (1, .int (nI i))] [.int v, .int 69069] (HP A σ) 0 0 := by
    intro v
    refine V_sipush (v := (nI 1009)) dL_cell_15 (by decide) ?_
    refine V_iload_n (i := 1) dL_cell_18 rfl rfl ?_
    refine V_imul dL_cell_19 ?_
    refine V_iadd dL_cell_20 ?_
    refine V_imul dL_cell_21 ?_
    refine V_sipush (v := (nI 12345)) dL_cell_22 (by decide) ?_
    refine V_iadd dL_cell_25 ?_
    refine V_istore_n (i := 2) dL_cell_26 rfl (by decide) ?_
    refine V_iload_n (i := 2) dL_cell_27 rfl rfl ?_
    refine V_iload_n (i := 2) dL_cell_28 rfl rfl ?_
    refine V_bipush (v := (nI 13)) dL_cell_29 (by decide) ?_
    refine V_iushr dL_cell_31 rfl ?_
    refine V_ixor dL_cell_32 ?_
    refine V_ldcI lc_8 dL_cell_33 ?_
    refine V_imul dL_cell_35 ?_
    refine V_istore_n (i := 2) dL_cell_36 rfl (by decide) ?_
    refine V_iload_n (i := 2) dL_cell_37 rfl rfl ?_
    refine V_iload_n (i := 2) dL_cell_38 rfl rfl ?_
    refine V_bipush (v := (nI 16)) dL_cell_39 (by decide) ?_
    refine V_iushr dL_cell_41 rfl ?_
    refine V_ixor dL_cell_42 ?_
    refine V_iret dL_cell_43 rfl (Nat.le_of_ble_eq_true rfl) (Nat.le_of_ble_eq_true rfl) ?_
    exact ⟨_, rfl, trivial, rfl⟩
  refine V_ldcI lc_7 dL_cell_0 ?_
  refine V_iload_n (i := 1) dL_cell_2 rfl rfl ?_
  refine V_aload_n (i := 0) dL_cell_3 rfl rfl ?_
  refine V_tlen hT dL_cell_4 ?_
  refine V_icmp_ge (tgt := 14) dL_cell_5 (by decide) (fun h5 => ?_) (fun h5 => ?_)
  · refine V_iconst (v := (nI 0)) dL_cell_14 (by decide) ?_
    exact key _
  · refine V_aload_n (i := 0) dL_cell_8 rfl rfl ?_
    refine V_iload_n (i := 1) dL_cell_9 rfl rfl ?_
    refine V_ti hT rfl ((nI_ltI (by omega) (by omega)).mp (nle_lt h5)) (by omega) dL_cell_10 ?_
    refine V_goto (tgt := 15) dL_cell_11 (by decide) ?_
    exact key _

set_option maxHeartbeats 4000000 in
set_option maxRecDepth 100000 in
theorem t_L_pick {D : va_G} {s0 : State} {l : Launch} {B : Nat} {A : AT} {σ : Sg} (hA : AOK B A) {b L : Nat} {xs : Nat → Int32} (hT : va_T .int b L (fun j => .int (xs j)) (bA s0) s0 s0.heap) (hL : L ≤ 260) {xi : Int32} {i : Nat} (hi : xi = nI i) (hi9 : i < 1000) {xn : Int32} {n : Nat} (hn : xn = nI n) (hn0 : 0 < n) (hn9 : n < 1000) : Tri D s0 l yL_pick cL_pick 3 ((some .int)) 1 0 0 [.ref b, .int xi, .int xn] (HP A σ) (IvA (HP A σ) (PkP n)) noX := by
  refine Tri.ofV (own := RL) (mn := "pick") (by decide +kernel) rfl rfl (Nat.le_of_ble_eq_true rfl) ?_
  subst hn
  refine V_aload_n (i := 0) dL_pick_0 rfl rfl ?_
  refine V_iload_n (i := 1) dL_pick_1 rfl rfl ?_
  refine V_callsE (d := 1) cs_L_9 dL_pick_2 (t_L_cell hA hT hL hi hi9) rfl rfl (Nat.le_of_ble_eq_true rfl) ⟨Nat.le_refl _, Nat.le_refl _⟩ (by decide) ⟨(Nat.le_of_ble_eq_true rfl), (Nat.le_of_ble_eq_true rfl)⟩ (fun v9 _ => ?_)
  obtain ⟨q, hq, eq⟩ := ushr8 v9
  refine V_bipush (v := (nI 8)) dL_pick_5 (by decide) ?_
  refine V_iushr dL_pick_7 eq ?_
  refine V_iload_n (i := 2) dL_pick_8 rfl rfl ?_
  refine V_irem dL_pick_9 (nI_ne0 hn0 (by omega)) ?_
  refine V_iret dL_pick_10 rfl (Nat.le_of_ble_eq_true rfl) (Nat.le_of_ble_eq_true rfl) ?_
  exact ⟨_, rfl, ⟨q % n, Nat.mod_lt _ hn0, pk_rem (by omega) hn0 (by omega)⟩, rfl⟩

set_option maxHeartbeats 4000000 in
set_option maxRecDepth 100000 in
theorem t_L_sum {D : va_G} {s0 : State} {l : Launch} {B : Nat} {A : AT} {σ : Sg} (hA : AOK B A) {nh : Nat} (h1 : σ.1 5 0 1 = nI nh) (hn : nh ≤ 8) {q : Nat} (hq : q < 8) : Tri D s0 l yL_sum cL_sum 4 ((some .int)) 5 0 0 [.ref (A 0 0 0), .int (nI q)] (HP A σ) (fun r G' => r = some (.int (S_sum (σ.1 5 0) nh q)) ∧ G' = HP A σ) noX := by
  refine Tri.ofV (own := RL) (mn := "sum") (by decide +kernel) rfl rfl (Nat.le_of_ble_eq_true rfl) ?_
  have loop : ∀ n i : Nat, i + n = nh → V D s0 RL "sum" cL_sum 4 ((some .int)) [] l (rmd 5 0 0) (Zm D s0 0 0 (fun r G' => r = some (.int (S_sum (σ.1 5 0) nh q)) ∧ G' = HP A σ) noX) 4 [(0, .ref (A 0 0 0)), (1, .int (nI q)), (2, .int (sm (fun i => S_hnum (σ.1 5 0) i q) i)), (3, .int (nI i))] [] (HP A σ) 0 0 := by
    intro n
    induction n with
    | zero =>
      intro i hi9
      obtain rfl : nh = i := by omega
      refine V_iload_n (i := 3) dL_sum_4 rfl rfl ?_
      refine V_aload_n (i := 0) dL_sum_5 rfl rfl ?_
      refine V_iconst (v := (nI 1)) dL_sum_6 (by decide) ?_
      refine Cv1_1 (d := 5) cv_L_38 dL_sum_7 (q_X7_account hA h1 hn (q := 1) (by decide)) (hp0 hA) rfl rfl (Nat.le_of_ble_eq_true rfl) ⟨Nat.le_refl _, Nat.le_refl _⟩ (by decide) ⟨Nat.le_of_ble_eq_true rfl, Nat.le_of_ble_eq_true rfl⟩ ?_
      refine V_icmp_ge (tgt := 28) dL_sum_10 (by decide) (fun _ => ?_) (fun h10 => by first | exact absurd (by rw [show S_num (σ.1 5 0) nh 1 = (σ.1 5 0) 1 from rfl, h1]; exact nI_le (Nat.le_refl _) (by omega)) h10 | exact absurd h10 (by rw [show S_num (σ.1 5 0) nh 1 = (σ.1 5 0) 1 from rfl, h1]; exact nI_le (Nat.le_refl _) (by omega)))
      refine V_iload_n (i := 2) dL_sum_28 rfl rfl ?_
      refine V_iret dL_sum_29 rfl (Nat.le_of_ble_eq_true rfl) (Nat.le_of_ble_eq_true rfl) ?_
      exact ⟨rfl, rfl⟩
    | succ n ih =>
      intro i hi9
      have k9 := ih (i + 1) (by omega)
      have hi8 : i < nh := by omega
      refine V_iload_n (i := 3) dL_sum_4 rfl rfl ?_
      refine V_aload_n (i := 0) dL_sum_5 rfl rfl ?_
      refine V_iconst (v := (nI 1)) dL_sum_6 (by decide) ?_
      refine Cv1_1 (d := 5) cv_L_38 dL_sum_7 (q_X7_account hA h1 hn (q := 1) (by decide)) (hp0 hA) rfl rfl (Nat.le_of_ble_eq_true rfl) ⟨Nat.le_refl _, Nat.le_refl _⟩ (by decide) ⟨Nat.le_of_ble_eq_true rfl, Nat.le_of_ble_eq_true rfl⟩ ?_
      refine V_icmp_ge (tgt := 28) dL_sum_10 (by decide) (fun h10 => by first | exact absurd h10 (by rw [show S_num (σ.1 5 0) nh 1 = (σ.1 5 0) 1 from rfl, h1]; exact nI_ge (by omega) (by omega)) | exact absurd (by rw [show S_num (σ.1 5 0) nh 1 = (σ.1 5 0) 1 from rfl, h1]; exact nI_ge (by omega) (by omega)) h10) (fun _ => ?_)
      refine V_iload_n (i := 2) dL_sum_13 rfl rfl ?_
      refine V_aload_n (i := 0) dL_sum_14 rfl rfl ?_
      refine V_iload_n (i := 3) dL_sum_15 rfl rfl ?_
      refine V_iload_n (i := 1) dL_sum_16 rfl rfl ?_
      refine Cv1_2 (d := 5) cv_L_72 dL_sum_17 (q_X7_houseOf hA h1 hn hi8 hq) (hp0 hA) rfl rfl (Nat.le_of_ble_eq_true rfl) ⟨Nat.le_refl _, Nat.le_refl _⟩ (by decide) ⟨Nat.le_of_ble_eq_true rfl, Nat.le_of_ble_eq_true rfl⟩ ?_
      refine V_iadd dL_sum_20 ?_
      refine V_istore_n (i := 2) dL_sum_21 rfl (by decide) ?_
      refine V_iinc (i := 3) dL_sum_22 rfl (inc1 _) (by decide) ?_
      refine V_goto (tgt := 4) dL_sum_25 (by decide) ?_
      refine V.fin [2, 3, 1, 0] rfl (congrArg (HP A) ?_) k9
      rfl
  refine V_iconst (v := (nI 0)) dL_sum_0 (by decide) ?_
  refine V_istore_n (i := 2) dL_sum_1 rfl (by decide) ?_
  refine V_iconst (v := (nI 0)) dL_sum_2 (by decide) ?_
  refine V_istore_n (i := 3) dL_sum_3 rfl (by decide) ?_
  exact V.fin [2, 3, 1, 0] rfl rfl (loop nh 0 (by omega))

