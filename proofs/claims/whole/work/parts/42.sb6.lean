/-! the StringBuilder: a number is appended; a character is read -/
theorem dJ5_charAt_5068e_0 : decode cJ5_charAt_5068e 0 = .ok (.aload_n 0, 1) := by decide +kernel
theorem dJ5_charAt_5068e_1 : decode cJ5_charAt_5068e 1 = .ok (.getfield 22, 3) := by decide +kernel
theorem dJ5_charAt_5068e_4 : decode cJ5_charAt_5068e 4 = .ok (.istore_n 2, 1) := by decide +kernel
theorem dJ5_charAt_5068e_5 : decode cJ5_charAt_5068e 5 = .ok (.aload_n 0, 1) := by decide +kernel
theorem dJ5_charAt_5068e_6 : decode cJ5_charAt_5068e 6 = .ok (.getfield 15, 3) := by decide +kernel
theorem dJ5_charAt_5068e_9 : decode cJ5_charAt_5068e 9 = .ok (.astore_n 3, 1) := by decide +kernel
theorem dJ5_charAt_5068e_10 : decode cJ5_charAt_5068e 10 = .ok (.aload_n 0, 1) := by decide +kernel
theorem dJ5_charAt_5068e_11 : decode cJ5_charAt_5068e 11 = .ok (.getfield 79, 3) := by decide +kernel
theorem dJ5_charAt_5068e_14 : decode cJ5_charAt_5068e 14 = .ok (.aload_n 3, 1) := by decide +kernel
theorem dJ5_charAt_5068e_15 : decode cJ5_charAt_5068e 15 = .ok (.arraylength, 1) := by decide +kernel
theorem dJ5_charAt_5068e_16 : decode cJ5_charAt_5068e 16 = .ok (.iload_n 2, 1) := by decide +kernel
theorem dJ5_charAt_5068e_17 : decode cJ5_charAt_5068e 17 = .ok (.ishr, 1) := by decide +kernel
theorem dJ5_charAt_5068e_18 : decode cJ5_charAt_5068e 18 = .ok (.invokestatic 138, 3) := by decide +kernel
theorem dJ5_charAt_5068e_21 : decode cJ5_charAt_5068e 21 = .ok (.istore 4, 2) := by decide +kernel
theorem dJ5_charAt_5068e_23 : decode cJ5_charAt_5068e 23 = .ok (.iload_n 1, 1) := by decide +kernel
theorem dJ5_charAt_5068e_24 : decode cJ5_charAt_5068e 24 = .ok (.iload 4, 2) := by decide +kernel
theorem dJ5_charAt_5068e_26 : decode cJ5_charAt_5068e 26 = .ok (.invokestatic 144, 3) := by decide +kernel
theorem dJ5_charAt_5068e_29 : decode cJ5_charAt_5068e 29 = .ok (.iload_n 2, 1) := by decide +kernel
theorem dJ5_charAt_5068e_30 : decode cJ5_charAt_5068e 30 = .ok (.ifCond .ne 12, 3) := by decide +kernel
theorem dJ5_charAt_5068e_33 : decode cJ5_charAt_5068e 33 = .ok (.aload_n 3, 1) := by decide +kernel
theorem dJ5_charAt_5068e_34 : decode cJ5_charAt_5068e 34 = .ok (.iload_n 1, 1) := by decide +kernel
theorem dJ5_charAt_5068e_35 : decode cJ5_charAt_5068e 35 = .ok (.baload, 1) := by decide +kernel
theorem dJ5_charAt_5068e_36 : decode cJ5_charAt_5068e 36 = .ok (.sipush 255, 3) := by decide +kernel
theorem dJ5_charAt_5068e_39 : decode cJ5_charAt_5068e 39 = .ok (.iand, 1) := by decide +kernel
theorem dJ5_charAt_5068e_40 : decode cJ5_charAt_5068e 40 = .ok (.i2c, 1) := by decide +kernel
theorem dJ5_charAt_5068e_41 : decode cJ5_charAt_5068e 41 = .ok (.ireturn, 1) := by decide +kernel
theorem dJ5_charAt_5068e_42 : decode cJ5_charAt_5068e 42 = .ok (.aload_n 3, 1) := by decide +kernel
theorem dJ5_charAt_5068e_43 : decode cJ5_charAt_5068e 43 = .ok (.iload_n 1, 1) := by decide +kernel
theorem dJ5_charAt_5068e_44 : decode cJ5_charAt_5068e 44 = .ok (.invokestatic 148, 3) := by decide +kernel
theorem dJ5_charAt_5068e_47 : decode cJ5_charAt_5068e 47 = .ok (.ireturn, 1) := by decide +kernel
theorem dJ4_charAt_5068e_0 : decode cJ4_charAt_5068e 0 = .ok (.aload_n 0, 1) := by decide +kernel
theorem dJ4_charAt_5068e_1 : decode cJ4_charAt_5068e 1 = .ok (.iload_n 1, 1) := by decide +kernel
theorem dJ4_charAt_5068e_2 : decode cJ4_charAt_5068e 2 = .ok (.invokespecial 329, 3) := by decide +kernel
theorem dJ4_charAt_5068e_5 : decode cJ4_charAt_5068e 5 = .ok (.ireturn, 1) := by decide +kernel
theorem cm_J5_138 : CM RJ5 138 Lib.Math.min.name Lib.Math.min.code := ⟨(wt_mem 1339 (by decide +kernel) (by decide +kernel)), (wt_mem 542 (by decide +kernel) (by decide +kernel)), (wt_mem 63 (by decide +kernel) (by decide +kernel)), (wt_mem 543 (by decide +kernel) (by decide +kernel))⟩
theorem SBok.mk2 {A : AT} {σ : Sg} {L L' : List Nat} {f' : Nat → Int32} (h : SBok A σ L) (hl : L'.length ≤ σ.2.2.2.2.1) (h1 : ∀ i, ∃ b, b < 128 ∧ f' i = nI b) (h2 : ∀ i, i < L'.length → f' i = nI (L'.getD i 0)) {x : Int32} (hx : x = nI L'.length) : SBok A (w3 (sbN σ σ.2.2.2.1 σ.2.2.2.2.1 f') 16 0 0 x) L' := ⟨h.1, h.2.1, (w3_eq (sbN σ σ.2.2.2.1 σ.2.2.2.2.1 f') 16 0 0 x).trans hx, hl, h1, h2⟩
theorem getD_l {L M : List Nat} {i : Nat} (h : i < L.length) : (L ++ M).getD i 0 = L.getD i 0 := by
  rw [List.getD_eq_getElem?_getD, List.getElem?_append_left h, ← List.getD_eq_getElem?_getD]
theorem getD_r {L M : List Nat} {i : Nat} (h : L.length ≤ i) : (L ++ M).getD i 0 = M.getD (i - L.length) 0 := by
  rw [List.getD_eq_getElem?_getD, List.getElem?_append_right h, ← List.getD_eq_getElem?_getD]
theorem dgN_le {v : Nat} : dgN v ≤ 2 := by
  unfold dgN
  split <;> omega
theorem dgN_ge {v : Nat} : 1 ≤ dgN v := by
  unfold dgN
  split <;> omega
theorem gc_b {f : Nat → Int32} {k v : Nat} (hv : v < 100) (hf : ∀ i, ∃ b, b < 128 ∧ f i = nI b) : ∀ i, ∃ b, b < 128 ∧ gcF f k v i = nI b := by
  intro i
  unfold gcF
  split
  · unfold up
    split
    · exact ⟨48 + v % 10, by omega, rfl⟩
    · exact hf i
  · unfold up
    split
    · exact ⟨48 + v / 10, by omega, rfl⟩
    · split
      · exact ⟨48 + v % 10, by omega, rfl⟩
      · exact hf i
theorem gc_d {f : Nat → Int32} {L : List Nat} {v : Nat} (hf : ∀ i, i < L.length → f i = nI (L.getD i 0)) : ∀ i, i < (L ++ dig v).length → gcF f (L.length + dgN v) v i = nI ((L ++ dig v).getD i 0) := by
  intro i hi
  rw [List.length_append, dig_len] at hi
  by_cases hl : i < L.length
  · rw [getD_l hl, ← hf i hl]
    unfold gcF dgN
    split
    · rw [up_ne (by omega)]
    · rw [up_ne (by omega), up_ne (by omega)]
  · rw [getD_r (by omega)]
    unfold gcF dgN at *
    unfold dig
    by_cases h10 : v < 10
    · rw [if_pos h10] at hi ⊢
      rw [if_pos h10, if_pos h10, show i = L.length + 1 - 1 by omega, up_at, show L.length + 1 - 1 - L.length = 0 by omega, show v % 10 = v by omega]
      rfl
    · rw [if_neg h10] at hi ⊢
      rw [if_neg h10, if_neg h10]
      by_cases h0 : i = L.length
      · rw [show i = L.length + 2 - 2 by omega, up_at, show L.length + 2 - 2 - L.length = 0 by omega]
        rfl
      · rw [up_ne (by omega), show i = L.length + 2 - 1 by omega, up_at, show L.length + 2 - 1 - L.length = 1 by omega]
        rfl
theorem c128 : ∀ b, b < 128 → ((nI b &&& 255).toUInt32 % 65536).toInt32 = nI b ∧ narrow .char (.int (nI b)) = .int (nI b) := by
  have h : (List.range 128).all (fun b => decide (((nI b &&& 255).toUInt32 % 65536).toInt32 = nI b) && decide (narrow .char (.int (nI b)) = .int (nI b))) = true := by decide +kernel
  intro b hb
  have := List.all_eq_true.mp h b (List.mem_range.mpr hb)
  simpa using this

set_option maxHeartbeats 4000000 in
set_option maxRecDepth 100000 in
theorem t_J5_append_c97b9 {D : va_G} {s0 : State} {l : Launch} {B : Nat} {A : AT} {σ : Sg} (hA : AOK B A) {L : List Nat} (hS : SBok A σ L) {v : Nat} (hv : v < 100) (hl : L.length + 2 ≤ 34) : Tri D s0 l yJ5_append_c97b9 cJ5_append_c97b9 4 ((some (.object "java/lang/AbstractStringBuilder"))) 4 1 34 [.ref (A 16 0 0), .int (nI v)] (HP A σ) (apP A σ (L ++ dig v)) noX := by
  refine Tri.ofV (own := RJ5) (mn := "append") (by decide +kernel) rfl rfl (Nat.le_of_ble_eq_true rfl) ?_
  have hd2 := dgN_le (v := v)
  have hd1 := dgN_ge (v := v)
  refine V_aload_n (i := 0) dJ5_append_c97b9_0 rfl rfl ?_
  refine V_getf fl_J5_79 dJ5_append_c97b9_1 (hp16 hA) rfl ?_
  rw [hS.2.2.1]
  refine V_istore_n (i := 2) dJ5_append_c97b9_4 rfl (by decide) ?_
  refine V_iload_n (i := 2) dJ5_append_c97b9_5 rfl rfl ?_
  refine V_iload_n (i := 1) dJ5_append_c97b9_6 rfl rfl ?_
  refine Cx1_1 (d := 4) csx_J5_245 dJ5_append_c97b9_7 (t_J6_stringSize_0f7a4 hv) (Nat.le_of_ble_eq_true rfl) ⟨Nat.le_refl _, Nat.le_refl _⟩ (by decide) ⟨Nat.le_of_ble_eq_true rfl, Nat.le_of_ble_eq_true rfl⟩ ?_
  refine V_iadd dJ5_append_c97b9_10 ?_
  rw [nI_add]
  refine V_istore_n (i := 3) dJ5_append_c97b9_11 rfl (by decide) ?_
  refine V_aload_n (i := 0) dJ5_append_c97b9_12 rfl rfl ?_
  refine V_iload_n (i := 3) dJ5_append_c97b9_13 rfl rfl ?_
  refine V_callU (d := 4) cu_J5_100 dJ5_append_c97b9_14 (t_J5_ensureCapacityInternal_d00df hA hS (by omega)) (hp16 hA) rfl rfl (Nat.le_of_ble_eq_true rfl) ⟨Nat.le_refl _, Nat.le_refl _⟩ (by decide) ⟨Nat.le_of_ble_eq_true rfl, Nat.le_of_ble_eq_true rfl⟩ ?_ (fun _ _ h => h.elim)
  rintro r G' ⟨σ1, rfl, rfl, g1, g2, g3, hS1, hk1⟩
  refine V_aload_n (i := 0) dJ5_append_c97b9_17 rfl rfl ?_
  refine V_callU (d := 4) cu_J5_83 dJ5_append_c97b9_18 (t_J5_isLatin1_aae02 hA rfl) (hp16 hA) rfl rfl (Nat.le_of_ble_eq_true rfl) ⟨Nat.le_refl _, Nat.le_refl _⟩ (by decide) ⟨Nat.le_of_ble_eq_true rfl, Nat.le_of_ble_eq_true rfl⟩ ?_ (fun _ _ h => h.elim)
  rintro r G' ⟨rfl, rfl⟩
  have hsz : σ1.2.2.2.2.1 < 1000 := by rcases hS1.2.1 with h | h <;> omega
  refine V_if_eq (tgt := 37) dJ5_append_c97b9_21 (by decide) (fun h21 => by first | exact absurd h21 (by decide) | exact absurd (by decide) h21) (fun _ => ?_)
  refine V_iload_n (i := 1) dJ5_append_c97b9_24 rfl rfl ?_
  refine V_iload_n (i := 3) dJ5_append_c97b9_25 rfl rfl ?_
  refine V_aload_n (i := 0) dJ5_append_c97b9_26 rfl rfl ?_
  refine V_getf fl_J5_15 dJ5_append_c97b9_27 (hp16 hA) rfl ?_
  refine V_callsX (d := 4) csx_J5_248 dJ5_append_c97b9_30 (t_J6_getChars_ba4f3 hS1.sb hsz hv (Nat.le_add_left _ _) hk1) rfl rfl (Nat.le_of_ble_eq_true rfl) ⟨Nat.le_refl _, Nat.le_refl _⟩ (by decide) ⟨Nat.le_of_ble_eq_true rfl, Nat.le_of_ble_eq_true rfl⟩ ?_ (fun _ _ h => h.elim)
  rintro r G' ⟨⟨x, rfl⟩, rfl⟩
  refine V_pop dJ5_append_c97b9_33 rfl ?_
  refine V.eqG (sb_put (A := A) (σ := σ1) (f' := gcF σ1.2.2.2.2.2 (L.length + dgN v) v) hS1.1) ?_
  refine V_goto (tgt := 48) dJ5_append_c97b9_34 (by decide) ?_
  refine V_aload_n (i := 0) dJ5_append_c97b9_48 rfl rfl ?_
  refine V_iload_n (i := 3) dJ5_append_c97b9_49 rfl rfl ?_
  refine VP_16_3 fl_J5_79 dJ5_append_c97b9_50 hA ?_
  refine V_aload_n (i := 0) dJ5_append_c97b9_53 rfl rfl ?_
  refine V_aret dJ5_append_c97b9_54 rfl (Or.inl ⟨_, rfl⟩) (Or.inr ⟨_, rfl⟩) (Nat.le_of_ble_eq_true rfl) (Nat.le_of_ble_eq_true rfl) ?_
  refine ⟨_, rfl, rfl, ?_, hS1.mk2 (L' := L ++ dig v) (by rw [List.length_append, dig_len]; exact hk1) (gc_b hv hS1.2.2.2.2.1) (gc_d hS1.2.2.2.2.2) (by rw [List.length_append, dig_len])⟩
  exact ⟨fun a z => ((SBr.w (σ := σ1) (c := 0) (x := nI (L.length + dgN v))).1 a z).trans (by rw [g1]), g2, g3⟩

set_option maxHeartbeats 4000000 in
set_option maxRecDepth 100000 in
theorem t_J4_append_bf812 {D : va_G} {s0 : State} {l : Launch} {B : Nat} {A : AT} {σ : Sg} (hA : AOK B A) {L : List Nat} (hS : SBok A σ L) {v : Nat} (hv : v < 100) (hl : L.length + 2 ≤ 34) : Tri D s0 l yJ4_append_bf812 cJ4_append_bf812 2 ((some (.object "java/lang/StringBuilder"))) 5 1 34 [.ref (A 16 0 0), .int (nI v)] (HP A σ) (apP A σ (L ++ dig v)) noX := by
  refine Tri.ofV (own := RJ4) (mn := "append") (by decide +kernel) rfl rfl (Nat.le_of_ble_eq_true rfl) ?_
  refine V_aload_n (i := 0) dJ4_append_bf812_0 rfl rfl ?_
  refine V_iload_n (i := 1) dJ4_append_bf812_1 rfl rfl ?_
  refine V_callSU (d := 5) csu_J4_53 dJ4_append_bf812_2 (t_J5_append_c97b9 hA hS hv hl) (hp16 hA) rfl rfl (Nat.le_of_ble_eq_true rfl) ⟨Nat.le_refl _, Nat.le_refl _⟩ (by decide) ⟨Nat.le_of_ble_eq_true rfl, Nat.le_of_ble_eq_true rfl⟩ ?_ (fun _ _ h => h.elim)
  rintro r G' ⟨σ', rfl, rfl, k1, k2⟩
  refine V_pop dJ4_append_bf812_5 rfl ?_
  refine V_aload_n (i := 0) dJ4_append_bf812_6 rfl rfl ?_
  refine V_aret dJ4_append_bf812_7 rfl (Or.inl ⟨_, rfl⟩) (Or.inr ⟨_, rfl⟩) (Nat.le_of_ble_eq_true rfl) (Nat.le_of_ble_eq_true rfl) ?_
  exact ⟨σ', rfl, rfl, k1, k2⟩

set_option maxHeartbeats 4000000 in
set_option maxRecDepth 100000 in
theorem t_J5_charAt_5068e {D : va_G} {s0 : State} {l : Launch} {B : Nat} {A : AT} {σ : Sg} (hA : AOK B A) {L : List Nat} (hS : SBok A σ L) {k : Nat} (hk : k < L.length) : Tri D s0 l yJ5_charAt_5068e cJ5_charAt_5068e 5 ((some .char)) 4 0 0 [.ref (A 16 0 0), .int (nI k)] (HP A σ) (fun r G' => r = some (.int (nI (L.getD k 0))) ∧ G' = HP A σ) noX := by
  refine Tri.ofV (own := RJ5) (mn := "charAt") (by decide +kernel) rfl rfl (Nat.le_of_ble_eq_true rfl) ?_
  have hlen := hS.2.2.2.1
  have hsz : σ.2.2.2.2.1 < 1000 := by rcases hS.2.1 with h | h <;> omega
  obtain ⟨b, hb, eb⟩ := hS.2.2.2.2.1 k
  have ek := hS.2.2.2.2.2 k hk
  have em : (if nI σ.2.2.2.2.1 < nI L.length then nI σ.2.2.2.2.1 else nI L.length) = nI L.length := if_neg (fun z => by rw [nI_ltI (by omega) (by omega)] at z; omega)
  refine V_aload_n (i := 0) dJ5_charAt_5068e_0 rfl rfl ?_
  refine V_getf fl_J5_22 dJ5_charAt_5068e_1 (hp16 hA) rfl ?_
  refine V_istore_n (i := 2) dJ5_charAt_5068e_4 rfl (by decide) ?_
  refine V_aload_n (i := 0) dJ5_charAt_5068e_5 rfl rfl ?_
  refine V_getf fl_J5_15 dJ5_charAt_5068e_6 (hp16 hA) rfl ?_
  refine V_astore_n (i := 3) dJ5_charAt_5068e_9 rfl (by decide) ?_
  refine V_aload_n (i := 0) dJ5_charAt_5068e_10 rfl rfl ?_
  refine V_getf fl_J5_79 dJ5_charAt_5068e_11 (hp16 hA) rfl ?_
  rw [hS.2.2.1]
  refine V_aload_n (i := 3) dJ5_charAt_5068e_14 rfl rfl ?_
  refine V_alen dJ5_charAt_5068e_15 hS.sb rfl ?_
  refine V_iload_n (i := 2) dJ5_charAt_5068e_16 rfl rfl ?_
  refine V_ishr dJ5_charAt_5068e_17 ?_
  rw [shr0]
  refine V_mmin cm_J5_138 dJ5_charAt_5068e_18 (Nat.le_of_ble_eq_true rfl) (Nat.le_of_ble_eq_true rfl) (Nat.le_of_ble_eq_true rfl) (Nat.le_of_ble_eq_true rfl) ?_
  refine V.eqst (st' := [.int (nI L.length)]) (congrArg (fun z => [Value.int z]) em) ?_
  refine V_istore (i := 4) dJ5_charAt_5068e_21 (by decide) ?_
  refine V_iload_n (i := 1) dJ5_charAt_5068e_23 rfl rfl ?_
  refine V_iload (i := 4) dJ5_charAt_5068e_24 rfl ?_
  refine Cx0_2 (d := 4) csx_J5_144 dJ5_charAt_5068e_26 (t_J0_checkIndex_df160 hk (by omega)) (Nat.le_of_ble_eq_true rfl) ⟨Nat.le_refl _, Nat.le_refl _⟩ (by decide) ⟨Nat.le_of_ble_eq_true rfl, Nat.le_of_ble_eq_true rfl⟩ ?_
  refine V_iload_n (i := 2) dJ5_charAt_5068e_29 rfl rfl ?_
  refine V_if_ne (tgt := 42) dJ5_charAt_5068e_30 (by decide) (fun h30 => by first | exact absurd h30 (by decide) | exact absurd (by decide) h30) (fun _ => ?_)
  refine V_aload_n (i := 3) dJ5_charAt_5068e_33 rfl rfl ?_
  refine V_iload_n (i := 1) dJ5_charAt_5068e_34 rfl rfl ?_
  refine V_bald9 dJ5_charAt_5068e_35 hS.sb rfl (by omega) (by omega) (congrArg Value.int eb) ?_
  refine V_sipush (v := 255) dJ5_charAt_5068e_36 (by decide) ?_
  refine V_iand dJ5_charAt_5068e_39 ?_
  refine V_i2c dJ5_charAt_5068e_40 (c128 b hb).1 ?_
  refine V_zret dJ5_charAt_5068e_41 rfl (c128 b hb).2 (Nat.le_of_ble_eq_true rfl) (Nat.le_of_ble_eq_true rfl) ?_
  exact ⟨by rw [← ek, eb], rfl⟩

set_option maxHeartbeats 4000000 in
set_option maxRecDepth 100000 in
theorem t_J4_charAt_5068e {D : va_G} {s0 : State} {l : Launch} {B : Nat} {A : AT} {σ : Sg} (hA : AOK B A) {L : List Nat} (hS : SBok A σ L) {k : Nat} (hk : k < L.length) : Tri D s0 l yJ4_charAt_5068e cJ4_charAt_5068e 2 ((some .char)) 5 0 0 [.ref (A 16 0 0), .int (nI k)] (HP A σ) (fun r G' => r = some (.int (nI (L.getD k 0))) ∧ G' = HP A σ) noX := by
  refine Tri.ofV (own := RJ4) (mn := "charAt") (by decide +kernel) rfl rfl (Nat.le_of_ble_eq_true rfl) ?_
  obtain ⟨b, hb, eb⟩ := hS.2.2.2.2.1 k
  have ek := hS.2.2.2.2.2 k hk
  refine V_aload_n (i := 0) dJ4_charAt_5068e_0 rfl rfl ?_
  refine V_iload_n (i := 1) dJ4_charAt_5068e_1 rfl rfl ?_
  refine V_callSU (d := 5) csu_J4_329 dJ4_charAt_5068e_2 (t_J5_charAt_5068e hA hS hk) (hp16 hA) rfl rfl (Nat.le_of_ble_eq_true rfl) ⟨Nat.le_refl _, Nat.le_refl _⟩ (by decide) ⟨Nat.le_of_ble_eq_true rfl, Nat.le_of_ble_eq_true rfl⟩ ?_ (fun _ _ h => h.elim)
  rintro r G' ⟨rfl, rfl⟩
  refine V_zret dJ4_charAt_5068e_5 rfl (by rw [← ek, eb]; exact (c128 b hb).2) (Nat.le_of_ble_eq_true rfl) (Nat.le_of_ble_eq_true rfl) ?_
  exact ⟨rfl, rfl⟩

