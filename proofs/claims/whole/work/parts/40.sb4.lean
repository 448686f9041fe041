/-! the StringBuilder: characters are appended; it is emptied; its length -/
theorem sb_put {A : AT} {σ : Sg} {f' : Nat → Int32} (h : nA A σ.2.2.2.1) : gset (HP A σ) σ.2.2.2.1 (.inr (.byte, σ.2.2.2.2.1, fun j => .int (f' j))) = HP A (sbN σ σ.2.2.2.1 σ.2.2.2.2.1 f') := by
  funext a
  by_cases e : a = σ.2.2.2.1
  · unfold gset
    rw [if_pos e, e]
    exact (HP_sb (A := A) (σ := sbN σ σ.2.2.2.1 σ.2.2.2.2.1 f') h).symm
  · unfold gset
    rw [if_neg e]
    unfold HP
    by_cases hx : ∃ q : Nat × Nat × Nat, vl q.1 q.2.1 q.2.2 = true ∧ A q.1 q.2.1 q.2.2 = a
    · rw [dif_pos hx, dif_pos hx]
      refine congrArg some ?_
      unfold cellT sbN
      split <;> rfl
    · rw [dif_neg hx, dif_neg hx, if_neg e, if_neg (show ¬ a = (sbN σ σ.2.2.2.1 σ.2.2.2.2.1 f').2.2.2.1 from e)]
theorem b128 : ∀ b, b < 128 → (nI b).toInt8.toInt32 = nI b ∧ narrow .byte (.int (nI b)) = .int (nI b) := by
  have h : (List.range 128).all (fun b => decide ((nI b).toInt8.toInt32 = nI b) && decide (narrow .byte (.int (nI b)) = .int (nI b))) = true := by decide +kernel
  intro b hb
  have := List.all_eq_true.mp h b (List.mem_range.mpr hb)
  simpa using this
theorem updV_up {f : Nat → Int32} {k : Nat} {x : Int32} : updV (fun j => .int (f j)) k (.int x) = fun j => .int (up f k x j) := by
  funext j
  unfold updV up
  split <;> rfl
theorem gt255 {c : Nat} (hc : c < 128) : ¬ nI 255 < nI c := by
  rw [nI_ltI (by omega) (by omega)]
  omega
def apP (A : AT) (σ : Sg) (L : List Nat) (r : Option Value) (G' : GH) : Prop := ∃ σ' : Sg, r = some (.ref (A 16 0 0)) ∧ G' = HP A σ' ∧ SBr σ σ' ∧ SBok A σ' L
theorem SBok.add {A : AT} {σ : Sg} {L : List Nat} (h : SBok A σ L) {c : Nat} (hc : c < 128) (hl : L.length + 1 ≤ σ.2.2.2.2.1) : SBok A (sbN (w3 σ 16 0 0 (nI (L.length + 1))) σ.2.2.2.1 σ.2.2.2.2.1 (up σ.2.2.2.2.2 L.length (nI c))) (L ++ [c]) := by
  refine ⟨h.1, h.2.1, ?_, ?_, fun i => ?_, fun i hi => ?_⟩
  · rw [List.length_append, List.length_singleton]
    exact w3_eq σ 16 0 0 (nI (L.length + 1))
  · rw [List.length_append, List.length_singleton]
    exact hl
  · show ∃ b, b < 128 ∧ up σ.2.2.2.2.2 L.length (nI c) i = nI b
    unfold up
    split
    · exact ⟨c, hc, rfl⟩
    · exact h.2.2.2.2.1 i
  · show up σ.2.2.2.2.2 L.length (nI c) i = _
    rw [List.length_append, List.length_singleton] at hi
    by_cases e : i = L.length
    · rw [e, up_at, List.getD_eq_getElem?_getD, List.getElem?_append_right (Nat.le_refl _), Nat.sub_self]
      rfl
    · rw [up_ne e, List.getD_eq_getElem?_getD, List.getElem?_append_left (by omega), ← List.getD_eq_getElem?_getD]
      exact h.2.2.2.2.2 i (by omega)

set_option maxHeartbeats 4000000 in
set_option maxRecDepth 100000 in
theorem t_J1_canEncode_fc78d {D : va_G} {s0 : State} {l : Launch} {G : GH} {c : Nat} (hc : c < 128) : Tri D s0 l yJ1_canEncode_fc78d cJ1_canEncode_fc78d 1 ((some .boolean)) 0 0 0 [.int (nI c)] G (fun r G' => r = some (.int 1) ∧ G' = G) noX := by
  refine Tri.ofV (own := RJ1) (mn := "canEncode") (by decide +kernel) rfl rfl (Nat.le_of_ble_eq_true rfl) ?_
  refine V_iload_n (i := 0) dJ1_canEncode_fc78d_0 rfl rfl ?_
  refine V_sipush (v := nI 255) dJ1_canEncode_fc78d_1 (by decide) ?_
  refine V_icmp_gt (tgt := 11) dJ1_canEncode_fc78d_4 (by decide) (fun h4 => by first | exact absurd h4 (gt255 hc) | exact absurd (gt255 hc) h4) (fun _ => ?_)
  refine V_iconst (v := 1) dJ1_canEncode_fc78d_7 (by decide) ?_
  refine V_goto (tgt := 12) dJ1_canEncode_fc78d_8 (by decide) ?_
  refine V_zret dJ1_canEncode_fc78d_12 rfl (by first | rfl | exact bi_n _) (Nat.le_of_ble_eq_true rfl) (Nat.le_of_ble_eq_true rfl) ?_
  exact ⟨rfl, rfl⟩

set_option maxHeartbeats 4000000 in
set_option maxRecDepth 100000 in
theorem t_J5_append_3fe6f {D : va_G} {s0 : State} {l : Launch} {B : Nat} {A : AT} {σ : Sg} (hA : AOK B A) {L : List Nat} (hS : SBok A σ L) {c : Nat} (hc : c < 128) (hl : L.length < 34) : Tri D s0 l yJ5_append_3fe6f cJ5_append_3fe6f 2 ((some (.object "java/lang/AbstractStringBuilder"))) 4 1 34 [.ref (A 16 0 0), .int (nI c)] (HP A σ) (apP A σ (L ++ [c])) noX := by
  refine Tri.ofV (own := RJ5) (mn := "append") (by decide +kernel) rfl rfl (Nat.le_of_ble_eq_true rfl) ?_
  refine V_aload_n (i := 0) dJ5_append_3fe6f_0 rfl rfl ?_
  refine V_aload_n (i := 0) dJ5_append_3fe6f_1 rfl rfl ?_
  refine V_getf fl_J5_79 dJ5_append_3fe6f_2 (hp16 hA) rfl ?_
  refine V_iconst (v := 1) dJ5_append_3fe6f_5 (by decide) ?_
  refine V_iadd dJ5_append_3fe6f_6 ?_
  refine V.eqst (st' := [.int (nI (L.length + 1)), .ref (A 16 0 0)]) (congrArg (fun z => [Value.int z, .ref (A 16 0 0)]) (by rw [hS.2.2.1]; exact nI_add _ 1)) ?_
  refine V_callU (d := 4) cu_J5_100 dJ5_append_3fe6f_7 (t_J5_ensureCapacityInternal_d00df hA hS (by omega)) (hp16 hA) rfl rfl (Nat.le_of_ble_eq_true rfl) ⟨Nat.le_refl _, Nat.le_refl _⟩ (by decide) ⟨Nat.le_of_ble_eq_true rfl, Nat.le_of_ble_eq_true rfl⟩ ?_ (fun _ _ h => h.elim)
  rintro r G' ⟨σ1, rfl, rfl, g1, g2, g3, hS1, hk1⟩
  have hcnt : σ1.1 16 0 0 = nI L.length := hS1.2.2.1
  refine V_aload_n (i := 0) dJ5_append_3fe6f_10 rfl rfl ?_
  refine V_callU (d := 4) cu_J5_83 dJ5_append_3fe6f_11 (t_J5_isLatin1_aae02 hA rfl) (hp16 hA) rfl rfl (Nat.le_of_ble_eq_true rfl) ⟨Nat.le_refl _, Nat.le_refl _⟩ (by decide) ⟨Nat.le_of_ble_eq_true rfl, Nat.le_of_ble_eq_true rfl⟩ ?_ (fun _ _ h => h.elim)
  rintro r G' ⟨rfl, rfl⟩
  refine V_if_eq (tgt := 45) dJ5_append_3fe6f_14 (by decide) (fun h14 => by first | exact absurd h14 (by decide) | exact absurd (by decide) h14) (fun _ => ?_)
  refine V_iload_n (i := 1) dJ5_append_3fe6f_17 rfl rfl ?_
  refine Cx1_1 (d := 4) csx_J5_191 dJ5_append_3fe6f_18 (t_J1_canEncode_fc78d hc) (Nat.le_of_ble_eq_true rfl) ⟨Nat.le_refl _, Nat.le_refl _⟩ (by decide) ⟨Nat.le_of_ble_eq_true rfl, Nat.le_of_ble_eq_true rfl⟩ ?_
  refine V_if_eq (tgt := 45) dJ5_append_3fe6f_21 (by decide) (fun h21 => by first | exact absurd h21 (by decide) | exact absurd (by decide) h21) (fun _ => ?_)
  refine V_aload_n (i := 0) dJ5_append_3fe6f_24 rfl rfl ?_
  refine V_getf fl_J5_15 dJ5_append_3fe6f_25 (hp16 hA) rfl ?_
  refine V_aload_n (i := 0) dJ5_append_3fe6f_28 rfl rfl ?_
  refine V_dup dJ5_append_3fe6f_29 rfl ?_
  refine V_getf fl_J5_79 dJ5_append_3fe6f_30 (hp16 hA) rfl ?_
  rw [hcnt]
  refine V_dup_x1 dJ5_append_3fe6f_33 rfl rfl ?_
  refine V_iconst (v := 1) dJ5_append_3fe6f_34 (by decide) ?_
  refine V_iadd dJ5_append_3fe6f_35 ?_
  refine V.eqst (st' := [.int (nI (L.length + 1)), .ref (A 16 0 0), .int (nI L.length), .ref σ1.2.2.2.1]) (congrArg (fun z => [Value.int z, .ref (A 16 0 0), .int (nI L.length), .ref σ1.2.2.2.1]) (nI_add _ 1)) ?_
  refine VP_16_3 fl_J5_79 dJ5_append_3fe6f_36 hA ?_
  refine V_iload_n (i := 1) dJ5_append_3fe6f_39 rfl rfl ?_
  refine V_i2b dJ5_append_3fe6f_40 (b128 c hc).1 ?_
  have hsz : σ1.2.2.2.2.1 < 2147483648 := by rcases hS1.2.1 with h | h <;> omega
  refine V_bast (n := σ1.2.2.2.2.1) (f := fun j => .int (σ1.2.2.2.2.2 j)) dJ5_append_3fe6f_41 (HP_sb (A := A) (σ := w3 σ1 16 0 0 (nI (L.length + 1))) hS1.1) (vp_in_nI (by omega) hsz) ?_
  rw [(b128 c hc).2, nI_clamp (by omega : L.length < 2 ^ 31), updV_up]
  refine V.eqG (sb_put (A := A) (σ := w3 σ1 16 0 0 (nI (L.length + 1))) (f' := up σ1.2.2.2.2.2 L.length (nI c)) hS1.1) ?_
  refine V_goto (tgt := 75) dJ5_append_3fe6f_42 (by decide) ?_
  refine V_aload_n (i := 0) dJ5_append_3fe6f_75 rfl rfl ?_
  refine V_aret dJ5_append_3fe6f_76 rfl (Or.inl ⟨_, rfl⟩) (Or.inr ⟨_, rfl⟩) (Nat.le_of_ble_eq_true rfl) (Nat.le_of_ble_eq_true rfl) ?_
  refine ⟨_, rfl, rfl, ?_, hS1.add hc hk1⟩
  exact ⟨fun a z => ((SBr.w (σ := σ1) (c := 0) (x := nI (L.length + 1))).1 a z).trans (by rw [g1]), g2, g3⟩

set_option maxHeartbeats 4000000 in
set_option maxRecDepth 100000 in
theorem t_J4_append_cf468 {D : va_G} {s0 : State} {l : Launch} {B : Nat} {A : AT} {σ : Sg} (hA : AOK B A) {L : List Nat} (hS : SBok A σ L) {c : Nat} (hc : c < 128) (hl : L.length < 34) : Tri D s0 l yJ4_append_cf468 cJ4_append_cf468 2 ((some (.object "java/lang/StringBuilder"))) 5 1 34 [.ref (A 16 0 0), .int (nI c)] (HP A σ) (apP A σ (L ++ [c])) noX := by
  refine Tri.ofV (own := RJ4) (mn := "append") (by decide +kernel) rfl rfl (Nat.le_of_ble_eq_true rfl) ?_
  refine V_aload_n (i := 0) dJ4_append_cf468_0 rfl rfl ?_
  refine V_iload_n (i := 1) dJ4_append_cf468_1 rfl rfl ?_
  refine V_callSU (d := 5) csu_J4_50 dJ4_append_cf468_2 (t_J5_append_3fe6f hA hS hc hl) (hp16 hA) rfl rfl (Nat.le_of_ble_eq_true rfl) ⟨Nat.le_refl _, Nat.le_refl _⟩ (by decide) ⟨Nat.le_of_ble_eq_true rfl, Nat.le_of_ble_eq_true rfl⟩ ?_ (fun _ _ h => h.elim)
  rintro r G' ⟨σ', rfl, rfl, k1, k2⟩
  refine V_pop dJ4_append_cf468_5 rfl ?_
  refine V_aload_n (i := 0) dJ4_append_cf468_6 rfl rfl ?_
  refine V_aret dJ4_append_cf468_7 rfl (Or.inl ⟨_, rfl⟩) (Or.inr ⟨_, rfl⟩) (Nat.le_of_ble_eq_true rfl) (Nat.le_of_ble_eq_true rfl) ?_
  exact ⟨σ', rfl, rfl, k1, k2⟩

set_option maxHeartbeats 4000000 in
set_option maxRecDepth 100000 in
theorem t_J5_setLength_d00df {D : va_G} {s0 : State} {l : Launch} {B : Nat} {A : AT} {σ : Sg} (hA : AOK B A) {L : List Nat} (hS : SBok A σ L) : Tri D s0 l yJ5_setLength_d00df cJ5_setLength_d00df 2 (none) 4 1 34 [.ref (A 16 0 0), .int 0] (HP A σ) (fun r G' => ∃ σ' : Sg, r = none ∧ G' = HP A σ' ∧ SBr σ σ' ∧ SBok A σ' []) noX := by
  refine Tri.ofV (own := RJ5) (mn := "setLength") (by decide +kernel) rfl rfl (Nat.le_of_ble_eq_true rfl) ?_
  refine V_iload_n (i := 1) dJ5_setLength_d00df_0 rfl rfl ?_
  refine V_if_ge (tgt := 13) dJ5_setLength_d00df_1 (by decide) (fun _ => ?_) (fun h1 => by first | exact absurd (by decide) h1 | exact absurd h1 (by decide))
  refine V_aload_n (i := 0) dJ5_setLength_d00df_13 rfl rfl ?_
  refine V_iload_n (i := 1) dJ5_setLength_d00df_14 rfl rfl ?_
  refine V_callU (d := 4) cu_J5_100 dJ5_setLength_d00df_15 (t_J5_ensureCapacityInternal_d00df (k := 0) hA hS (by omega)) (hp16 hA) rfl rfl (Nat.le_of_ble_eq_true rfl) ⟨Nat.le_refl _, Nat.le_refl _⟩ (by decide) ⟨Nat.le_of_ble_eq_true rfl, Nat.le_of_ble_eq_true rfl⟩ ?_ (fun _ _ h => h.elim)
  rintro r G' ⟨σ1, rfl, rfl, g1, g2, g3, hS1, hk1⟩
  have hcnt : σ1.1 16 0 0 = nI L.length := hS1.2.2.1
  have hl34 : L.length ≤ 34 := by have := hS1.2.2.2.1; rcases hS1.2.1 with h | h <;> omega
  refine V_aload_n (i := 0) dJ5_setLength_d00df_18 rfl rfl ?_
  refine V_getf fl_J5_79 dJ5_setLength_d00df_19 (hp16 hA) rfl ?_
  refine V_iload_n (i := 1) dJ5_setLength_d00df_22 rfl rfl ?_
  refine V_icmp_ge (tgt := 63) dJ5_setLength_d00df_23 (by decide) (fun _ => ?_) (fun h23 => by first | exact absurd ((by rw [hcnt]; exact nI_le (Nat.zero_le _) (by omega))) h23 | exact absurd h23 ((by rw [hcnt]; exact nI_le (Nat.zero_le _) (by omega))))
  refine V_aload_n (i := 0) dJ5_setLength_d00df_63 rfl rfl ?_
  refine V_getf fl_J5_79 dJ5_setLength_d00df_64 (hp16 hA) rfl ?_
  refine V_iload_n (i := 1) dJ5_setLength_d00df_67 rfl rfl ?_
  refine V_icmp_le (tgt := 76) dJ5_setLength_d00df_68 (by decide) (fun h68 => ?_) (fun h68 => ?_)
  · refine V_aload_n (i := 0) dJ5_setLength_d00df_76 rfl rfl ?_
    refine V_iload_n (i := 1) dJ5_setLength_d00df_77 rfl rfl ?_
    refine VP_16_3 fl_J5_79 dJ5_setLength_d00df_78 hA ?_
    refine V_vret dJ5_setLength_d00df_81 rfl (Nat.le_of_ble_eq_true rfl) (Nat.le_of_ble_eq_true rfl) ?_
    refine ⟨w3 _ 16 0 0 0, rfl, rfl, ⟨fun a z => ?_, g2, g3⟩, ⟨hS1.1, hS1.2.1, w3_eq _ _ _ _ _, Nat.zero_le _, hS1.2.2.2.2.1, fun i hi => absurd hi (Nat.not_lt_zero i)⟩⟩
    first
      | exact ((SBr.w (c := 0) (x := 0)).1 a z).trans (((SBr.w (σ := σ1) (c := 1) (x := 1)).1 a z).trans (by rw [g1]))
      | exact ((SBr.w (σ := σ1) (c := 0) (x := 0)).1 a z).trans (by rw [g1])
  · refine V_aload_n (i := 0) dJ5_setLength_d00df_71 rfl rfl ?_
    refine V_iconst (v := 1) dJ5_setLength_d00df_72 (by decide) ?_
    refine VP_16_2 fl_J5_73 dJ5_setLength_d00df_73 hA (Or.inr rfl) ?_
    refine V_aload_n (i := 0) dJ5_setLength_d00df_76 rfl rfl ?_
    refine V_iload_n (i := 1) dJ5_setLength_d00df_77 rfl rfl ?_
    refine VP_16_3 fl_J5_79 dJ5_setLength_d00df_78 hA ?_
    refine V_vret dJ5_setLength_d00df_81 rfl (Nat.le_of_ble_eq_true rfl) (Nat.le_of_ble_eq_true rfl) ?_
    refine ⟨w3 _ 16 0 0 0, rfl, rfl, ⟨fun a z => ?_, g2, g3⟩, ⟨hS1.1, hS1.2.1, w3_eq _ _ _ _ _, Nat.zero_le _, hS1.2.2.2.2.1, fun i hi => absurd hi (Nat.not_lt_zero i)⟩⟩
    first
      | exact ((SBr.w (c := 0) (x := 0)).1 a z).trans (((SBr.w (σ := σ1) (c := 1) (x := 1)).1 a z).trans (by rw [g1]))
      | exact ((SBr.w (σ := σ1) (c := 0) (x := 0)).1 a z).trans (by rw [g1])

set_option maxHeartbeats 4000000 in
set_option maxRecDepth 100000 in
theorem t_J4_setLength_d00df {D : va_G} {s0 : State} {l : Launch} {B : Nat} {A : AT} {σ : Sg} (hA : AOK B A) {L : List Nat} (hS : SBok A σ L) : Tri D s0 l yJ4_setLength_d00df cJ4_setLength_d00df 2 (none) 5 1 34 [.ref (A 16 0 0), .int 0] (HP A σ) (fun r G' => ∃ σ' : Sg, r = none ∧ G' = HP A σ' ∧ SBr σ σ' ∧ SBok A σ' []) noX := by
  refine Tri.ofV (own := RJ4) (mn := "setLength") (by decide +kernel) rfl rfl (Nat.le_of_ble_eq_true rfl) ?_
  refine V_aload_n (i := 0) dJ4_setLength_d00df_0 rfl rfl ?_
  refine V_iload_n (i := 1) dJ4_setLength_d00df_1 rfl rfl ?_
  refine V_callSU (d := 5) csu_J4_333 dJ4_setLength_d00df_2 (t_J5_setLength_d00df hA hS) (hp16 hA) rfl rfl (Nat.le_of_ble_eq_true rfl) ⟨Nat.le_refl _, Nat.le_refl _⟩ (by decide) ⟨Nat.le_of_ble_eq_true rfl, Nat.le_of_ble_eq_true rfl⟩ ?_ (fun _ _ h => h.elim)
  rintro r G' ⟨σ', rfl, rfl, k1, k2⟩
  refine V_vret dJ4_setLength_d00df_5 rfl (Nat.le_of_ble_eq_true rfl) (Nat.le_of_ble_eq_true rfl) ?_
  exact ⟨σ', rfl, rfl, k1, k2⟩

set_option maxHeartbeats 4000000 in
set_option maxRecDepth 100000 in
theorem t_J5_length_8abf5 {D : va_G} {s0 : State} {l : Launch} {B : Nat} {A : AT} {σ : Sg} (hA : AOK B A) {L : List Nat} (hS : SBok A σ L) : Tri D s0 l yJ5_length_8abf5 cJ5_length_8abf5 1 ((some .int)) 0 0 0 [.ref (A 16 0 0)] (HP A σ) (fun r G' => r = some (.int (nI L.length)) ∧ G' = HP A σ) noX := by
  refine Tri.ofV (own := RJ5) (mn := "length") (by decide +kernel) rfl rfl (Nat.le_of_ble_eq_true rfl) ?_
  refine V_aload_n (i := 0) dJ5_length_8abf5_0 rfl rfl ?_
  refine V_getf fl_J5_79 dJ5_length_8abf5_1 (hp16 hA) rfl ?_
  refine V_iret dJ5_length_8abf5_4 rfl (Nat.le_of_ble_eq_true rfl) (Nat.le_of_ble_eq_true rfl) ?_
  exact ⟨by rw [hS.2.2.1], rfl⟩

set_option maxHeartbeats 4000000 in
set_option maxRecDepth 100000 in
theorem t_J4_length_8abf5 {D : va_G} {s0 : State} {l : Launch} {B : Nat} {A : AT} {σ : Sg} (hA : AOK B A) {L : List Nat} (hS : SBok A σ L) : Tri D s0 l yJ4_length_8abf5 cJ4_length_8abf5 1 ((some .int)) 1 0 0 [.ref (A 16 0 0)] (HP A σ) (fun r G' => r = some (.int (nI L.length)) ∧ G' = HP A σ) noX := by
  refine Tri.ofV (own := RJ4) (mn := "length") (by decide +kernel) rfl rfl (Nat.le_of_ble_eq_true rfl) ?_
  refine V_aload_n (i := 0) dJ4_length_8abf5_0 rfl rfl ?_
  refine V_callSU (d := 1) csu_J4_343 dJ4_length_8abf5_1 (t_J5_length_8abf5 hA hS) (hp16 hA) rfl rfl (Nat.le_of_ble_eq_true rfl) ⟨Nat.le_refl _, Nat.le_refl _⟩ (by decide) ⟨Nat.le_of_ble_eq_true rfl, Nat.le_of_ble_eq_true rfl⟩ ?_ (fun _ _ h => h.elim)
  rintro r G' ⟨rfl, rfl⟩
  refine V_iret dJ4_length_8abf5_4 rfl (Nat.le_of_ble_eq_true rfl) (Nat.le_of_ble_eq_true rfl) ?_
  exact ⟨rfl, rfl⟩

