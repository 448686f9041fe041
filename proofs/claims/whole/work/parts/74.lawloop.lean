/-! the law: its loop -/
theorem IV.mono {A : AT} {m : Nat} {σ : Sg} (h : IV A m σ) : IV A (m + 1) σ := by
  obtain ⟨nx, w, cn, hh, sf, sv, rr, tl, tx, ft, T, c, q, mi, sb⟩ := h
  exact ⟨nx, w, cn, hh, sf, sv, rr, tl, tx, ft, T, c, q, mi.mono (Nat.le_succ m), sb⟩
theorem len3 {L i : Nat} (hL : L ≤ 1536) (hi : i ≤ 1600) (h : ¬ nI L - 3 < nI i) : i + 2 < L := by
  have hL3 : 3 ≤ L := Decidable.byContradiction (fun z => h (by
    have e : (nI L - 3).toInt < 0 := by
      rcases (by omega : L = 0 ∨ L = 1 ∨ L = 2) with rfl | rfl | rfl <;> decide
    rw [Int32.lt_iff_toInt_lt, nI_toInt (by omega : i < 2 ^ 31)]
    omega))
  obtain ⟨j, rfl⟩ : ∃ j, L = j + 3 := ⟨L - 3, by omega⟩
  have e : nI (j + 3) - 3 = nI j := by
    rw [← nI_add]
    exact Int32.add_sub_cancel _ _
  rw [e] at h
  refine Decidable.byContradiction (fun z => h ?_)
  rw [Int32.lt_iff_toInt_lt, nI_toInt (by omega), nI_toInt (by omega)]
  omega
set_option maxHeartbeats 4000000 in
set_option maxRecDepth 100000 in
theorem law_sw {D : va_G} {s0 : State} {mn : String} {nL : Nat} {ret : Option FieldType} {hh : List (Nat × Nat × Nat × Nat)} {l : Launch} {R : Room} {Z : ZT} {A : AT} {b0 L i : Nat} {xs : Nat → Int32} {cells slots m : Nat} {σ : Sg} {x : Int32} (hl : l.stackTraces = false) (hA : AOK s0.heap.size A) (H : LH s0 R nL b0 L i xs cells slots) (hm9 : m ≤ 600) (iv : IV A m σ) (kk : ∀ σ2 : Sg, IV A (m + 1) σ2 → V D s0 RL mn cL_law nL ret hh l R Z 2081 (LO A b0 i) [] (HP A σ2) (cells + 24) (slots + 816)) : V D s0 RL mn cL_law nL ret hh l R Z 44 (LO A b0 i) [.int x] (HP A σ) cells slots := by
  have hx : x.toInt < 0 ∨ 35 < x.toInt ∨ ∃ n : Nat, n < 36 ∧ x.toInt = n := by
    by_cases h1 : x.toInt < 0
    · exact Or.inl h1
    · by_cases h2 : 35 < x.toInt
      · exact Or.inr (Or.inl h2)
      · exact Or.inr (Or.inr ⟨x.toInt.toNat, by omega, by omega⟩)
  have hout : (x.toInt < 0 ∨ 35 < x.toInt) → V D s0 RL mn cL_law nL ret hh l R Z 44 (LO A b0 i) [.int x] (HP A σ) cells slots := fun h => by
    refine V_tableOut (tgt := 2081) dL_law_44 h (by decide) ?_
    exact V.wid (k := cells + 24) (n := slots + 816) (by omega) (by omega) (kk σ iv.mono)
  rcases hx with h | h | ⟨n, hn, e⟩
  · exact hout (Or.inl h)
  · exact hout (Or.inr h)
  rcases (by omega : n = 0 ∨ n = 1 ∨ n = 2 ∨ n = 3 ∨ n = 4 ∨ n = 5 ∨ n = 6 ∨ n = 7 ∨ n = 8 ∨ n = 9 ∨ n = 10 ∨ n = 11 ∨ n = 12 ∨ n = 13 ∨ n = 14 ∨ n = 15 ∨ n = 16 ∨ n = 17 ∨ n = 18 ∨ n = 19 ∨ n = 20 ∨ n = 21 ∨ n = 22 ∨ n = 23 ∨ n = 24 ∨ n = 25 ∨ n = 26 ∨ n = 27 ∨ n = 28 ∨ n = 29 ∨ n = 30 ∨ n = 31 ∨ n = 32 ∨ n = 33 ∨ n = 34 ∨ n = 35) with rfl | rfl | rfl | rfl | rfl | rfl | rfl | rfl | rfl | rfl | rfl | rfl | rfl | rfl | rfl | rfl | rfl | rfl | rfl | rfl | rfl | rfl | rfl | rfl | rfl | rfl | rfl | rfl | rfl | rfl | rfl | rfl | rfl | rfl | rfl | rfl
  · exact V_tableIn (off := 160) (tgt := 204) dL_law_44 (by omega) (by omega) (by rw [e]; rfl) (by decide) (lc_house hl hA H hm9 iv kk)
  · exact V_tableIn (off := 228) (tgt := 272) dL_law_44 (by omega) (by omega) (by rw [e]; rfl) (by decide) (lc_order hl hA H hm9 iv kk)
  · exact V_tableIn (off := 296) (tgt := 340) dL_law_44 (by omega) (by omega) (by rw [e]; rfl) (by decide) (lc_carrier hl hA H hm9 iv kk)
  · exact V_tableIn (off := 352) (tgt := 396) dL_law_44 (by omega) (by omega) (by rw [e]; rfl) (by decide) (lc_load hl hA H hm9 iv kk)
  · exact V_tableIn (off := 408) (tgt := 452) dL_law_44 (by omega) (by omega) (by rw [e]; rfl) (by decide) (lc_drive hl hA H hm9 iv kk)
  · exact V_tableIn (off := 464) (tgt := 508) dL_law_44 (by omega) (by omega) (by rw [e]; rfl) (by decide) (lc_carry hl hA H hm9 iv kk)
  · exact V_tableIn (off := 532) (tgt := 576) dL_law_44 (by omega) (by omega) (by rw [e]; rfl) (by decide) (lc_bone hl hA H hm9 iv kk)
  · exact V_tableIn (off := 576) (tgt := 620) dL_law_44 (by omega) (by omega) (by rw [e]; rfl) (by decide) (lc_bones hl hA H hm9 iv kk)
  · exact V_tableIn (off := 632) (tgt := 676) dL_law_44 (by omega) (by omega) (by rw [e]; rfl) (by decide) (lc_mop hl hA H hm9 iv kk)
  · exact V_tableIn (off := 688) (tgt := 732) dL_law_44 (by omega) (by omega) (by rw [e]; rfl) (by decide) (lc_pay hl hA H hm9 iv kk)
  · exact V_tableIn (off := 756) (tgt := 800) dL_law_44 (by omega) (by omega) (by rw [e]; rfl) (by decide) (lc_shoe hl hA H hm9 iv kk)
  · exact V_tableIn (off := 812) (tgt := 856) dL_law_44 (by omega) (by omega) (by rw [e]; rfl) (by decide) (lc_days hl hA H hm9 iv kk)
  · exact V_tableIn (off := 868) (tgt := 912) dL_law_44 (by omega) (by omega) (by rw [e]; rfl) (by decide) (lc_houseOf hl hA H hm9 iv kk)
  · exact V_tableIn (off := 936) (tgt := 980) dL_law_44 (by omega) (by omega) (by rw [e]; rfl) (by decide) (lc_carrierOf hl hA H hm9 iv kk)
  · exact V_tableIn (off := 1004) (tgt := 1048) dL_law_44 (by omega) (by omega) (by rw [e]; rfl) (by decide) (lc_shoeOf hl hA H hm9 iv kk)
  · exact V_tableIn (off := 1060) (tgt := 1104) dL_law_44 (by omega) (by omega) (by rw [e]; rfl) (by decide) (lc_tires hl hA H hm9 iv kk)
  · exact V_tableIn (off := 1128) (tgt := 1172) dL_law_44 (by omega) (by omega) (by rw [e]; rfl) (by decide) (lc_canCarry hl hA H hm9 iv kk)
  · exact V_tableIn (off := 1196) (tgt := 1240) dL_law_44 (by omega) (by omega) (by rw [e]; rfl) (by decide) (lc_mayCarry hl hA H hm9 iv kk)
  · exact V_tableIn (off := 1252) (tgt := 1296) dL_law_44 (by omega) (by omega) (by rw [e]; rfl) (by decide) (lc_bestCarrier hl hA H hm9 iv kk)
  · exact V_tableIn (off := 1308) (tgt := 1352) dL_law_44 (by omega) (by omega) (by rw [e]; rfl) (by decide) (lc_reach hl hA H hm9 iv kk)
  · exact V_tableIn (off := 1321) (tgt := 1365) dL_law_44 (by omega) (by omega) (by rw [e]; rfl) (by decide) (lc_isQuiet hl hA H hm9 iv kk)
  · exact V_tableIn (off := 1384) (tgt := 1428) dL_law_44 (by omega) (by omega) (by rw [e]; rfl) (by decide) (lc_ranked hl hA H hm9 iv kk)
  · exact V_tableIn (off := 1440) (tgt := 1484) dL_law_44 (by omega) (by omega) (by rw [e]; rfl) (by decide) (lc_carried hl hA H hm9 iv kk)
  · exact V_tableIn (off := 1453) (tgt := 1497) dL_law_44 (by omega) (by omega) (by rw [e]; rfl) (by decide) (lc_carriedAgain hl hA H hm9 iv kk)
  · exact V_tableIn (off := 1466) (tgt := 1510) dL_law_44 (by omega) (by omega) (by rw [e]; rfl) (by decide) (lc_append hl hA H hm9 iv kk)
  · exact V_tableIn (off := 1524) (tgt := 1568) dL_law_44 (by omega) (by omega) (by rw [e]; rfl) (by decide) (lc_commands hl hA H hm9 iv kk)
  · exact V_tableIn (off := 1568) (tgt := 1612) dL_law_44 (by omega) (by omega) (by rw [e]; rfl) (by decide) (lc_faultPosition hl hA H hm9 iv kk)
  · exact V_tableIn (off := 1581) (tgt := 1625) dL_law_44 (by omega) (by omega) (by rw [e]; rfl) (by decide) (lc_reason hl hA H hm9 iv kk)
  · exact V_tableIn (off := 1637) (tgt := 1681) dL_law_44 (by omega) (by omega) (by rw [e]; rfl) (by decide) (lc_line hl hA H hm9 iv kk)
  · exact V_tableIn (off := 1693) (tgt := 1737) dL_law_44 (by omega) (by omega) (by rw [e]; rfl) (by decide) (lc_character hl hA H hm9 iv kk)
  · exact V_tableIn (off := 1749) (tgt := 1793) dL_law_44 (by omega) (by omega) (by rw [e]; rfl) (by decide) (lc_meanArrears hl hA H hm9 iv kk)
  · exact V_tableIn (off := 1815) (tgt := 1859) dL_law_44 (by omega) (by omega) (by rw [e]; rfl) (by decide) (lc_paidShare hl hA H hm9 iv kk)
  · exact V_tableIn (off := 1880) (tgt := 1924) dL_law_44 (by omega) (by omega) (by rw [e]; rfl) (by decide) (lc_account hl hA H hm9 iv kk)
  · exact V_tableIn (off := 1936) (tgt := 1980) dL_law_44 (by omega) (by omega) (by rw [e]; rfl) (by decide) (lc_undo hl hA H hm9 iv kk)
  · exact V_tableIn (off := 1980) (tgt := 2024) dL_law_44 (by omega) (by omega) (by rw [e]; rfl) (by decide) (lc_save hl hA H hm9 iv kk)
  · exact V_tableIn (off := 1993) (tgt := 2037) dL_law_44 (by omega) (by omega) (by rw [e]; rfl) (by decide) (lc_restore hl hA H hm9 iv kk)
set_option maxHeartbeats 4000000 in
set_option maxRecDepth 100000 in
theorem law_loop {D : va_G} {s0 : State} {mn : String} {nL : Nat} {ret : Option FieldType} {hh : List (Nat × Nat × Nat × Nat)} {l : Launch} {R : Room} {Z : ZT} {A : AT} {b0 L : Nat} {xs : Nat → Int32} (hl : l.stackTraces = false) (hA : AOK s0.heap.size A) (hT : va_T .int b0 L (fun j => .int (xs j)) (bA s0) s0 s0.heap) (hL : L ≤ 1536) (hnL : 9 ≤ nL) (hR : 16 * 13 ≤ R.frames ∧ 400 * 13 ≤ R.locals) (hc : 13000 ≤ R.cells) (hs : 430000 ≤ R.slots) (kend : ∀ (σ : Sg) (lo : List (Nat × Value)), V D s0 RL mn cL_law nL ret hh l R Z 2087 lo [] (HP A σ) 13000 430000) : ∀ (n m : Nat) (σ : Sg), 3 * (n + m) ≥ L → 3 * m ≤ L → IV A m σ → V D s0 RL mn cL_law nL ret hh l R Z 28 (LO A b0 (3 * m)) [] (HP A σ) (300 + 24 * m) (4000 + 816 * m) := by
  intro n
  induction n with
  | zero =>
    intro m σ h1 h2 iv
    refine V_iload (i := 5) dL_law_28 rfl ?_
    refine V_aload_n (i := 0) dL_law_30 rfl rfl ?_
    refine V_tlen hT dL_law_31 ?_
    refine V_iconst (v := 3) dL_law_32 (by decide) ?_
    refine V_isub dL_law_33 ?_
    refine V_icmp_gt (tgt := 2087) dL_law_34 (by decide) (fun _ => V.wid (k := 13000) (n := 430000) (by omega) (by omega) (kend σ _)) (fun h => ?_)
    have := len3 hL (by omega) h
    omega
  | succ n ih =>
    intro m σ h1 h2 iv
    refine V_iload (i := 5) dL_law_28 rfl ?_
    refine V_aload_n (i := 0) dL_law_30 rfl rfl ?_
    refine V_tlen hT dL_law_31 ?_
    refine V_iconst (v := 3) dL_law_32 (by decide) ?_
    refine V_isub dL_law_33 ?_
    refine V_icmp_gt (tgt := 2087) dL_law_34 (by decide) (fun _ => V.wid (k := 13000) (n := 430000) (by omega) (by omega) (kend σ _)) (fun h => ?_)
    have h3 := len3 hL (by omega) h
    refine V_aload_n (i := 0) dL_law_37 rfl rfl ?_
    refine V_iload (i := 5) dL_law_38 rfl ?_
    refine V_ti hT rfl (by omega) (by omega) dL_law_40 ?_
    refine V_bipush (v := 63) dL_law_41 (by decide) ?_
    refine V_iand dL_law_43 ?_
    refine law_sw (m := m) (i := 3 * m) hl hA ⟨hT, hL, by omega, hnL, hR, by omega, by omega⟩ (by omega) iv (fun σ2 iv2 => ?_)
    refine V_iinc (i := 5) dL_law_2081 rfl (nI_add (3 * m) 3) (by omega) ?_
    refine V_goto (tgt := 28) dL_law_2084 (by decide) ?_
    exact V.fin [0, 1, 2, 3, 4, 5] rfl rfl (V.wid (k := 300 + 24 * (m + 1)) (n := 4000 + 816 * (m + 1)) (by omega) (by omega) (ih (m + 1) σ2 (by omega) (by omega) iv2))
theorem Wb_0 : Wb 0 w0 := fun j B h => by
  by_cases h9 : j < 9
  · rcases (by omega : j = 0 ∨ j = 1 ∨ j = 2 ∨ j = 3 ∨ j = 4 ∨ j = 5 ∨ j = 6 ∨ j = 7 ∨ j = 8) with rfl | rfl | rfl | rfl | rfl | rfl | rfl | rfl | rfl
    · cases h
    · exact ⟨0, Nat.zero_le _, rfl⟩
    · exact ⟨0, Nat.zero_le _, rfl⟩
    · exact ⟨0, Nat.zero_le _, rfl⟩
    · exact ⟨0, Nat.zero_le _, rfl⟩
    · cases h
    · cases h
    · cases h
    · injection h with h
      exact ⟨3, by omega, rfl⟩
  · exact ⟨0, Nat.zero_le _, (w0_z (by omega)).trans nI_0.symm⟩
theorem Ow_0 : Ow 0 w0 := ⟨Wb_0, 0, 0, 0, ⟨rfl, by decide⟩, ⟨rfl, by decide⟩, ⟨rfl, by decide⟩, fun i hi h => by
  rw [w0_z (by unfold hx; omega)] at h
  exact absurd h (by decide)⟩
theorem IV_0 {A : AT} {f : Nat → Nat} (hn : nA A (f 186)) : IV A 0 (sg0 f) := by
  have e5 : ∀ k, (sg0 f).1 5 k = w0 := fun k => funext fun j => by
    unfold sg0
    dsimp only
    rw [if_pos (Or.inl rfl)]
  have e21 : (sg0 f).1 21 0 = w0 := funext fun j => by
    unfold sg0
    dsimp only
    rw [if_pos (Or.inr rfl)]
  have eo : ∀ a b c, ¬ (a = 5 ∨ a = 21) → ¬ ((a = 0 ∧ c = 1) ∨ (a = 20 ∧ c = 12)) → (sg0 f).1 a b c = 0 := fun a b c h1 h2 => (if_neg h1).trans (if_neg h2)
  refine ⟨0, w0, 0, fun _ _ => 0, 0, fun _ => 0, (0, 0, 0), 0, fun _ => 0, -1, [], ⟨e5 0, ⟨?_, by decide, ?_, by decide⟩, fun i hi => by omega, fun k hk => ?_, ⟨?_, fun z => absurd rfl z⟩, ⟨?_, ?_, ?_⟩, ⟨?_, fun j hj => by omega⟩, ?_⟩, ⟨e21, ⟨fun j hj => ?_, fun j hj => ?_⟩, ⟨?_, by decide, fun i j hi => by omega⟩, ⟨?_, fun z => absurd rfl z⟩, ⟨?_, ?_, ?_⟩, ⟨?_, fun j hj => by omega⟩, ?_, ⟨?_, fun i hi => absurd hi (Nat.not_lt_zero i)⟩⟩, ⟨Ow_0, fun i hi => by omega, Or.inl rfl, ⟨by decide, fun j hj => by omega⟩, by decide, fun i hi => absurd hi (Nat.not_lt_zero i)⟩, ⟨hn, Or.inl rfl, ?_, Nat.zero_le _, fun i => ⟨0, by decide, rfl⟩, fun i hi => absurd hi (Nat.not_lt_zero i)⟩⟩
  · exact eo 3 0 0 (by omega) (by omega)
  · exact eo 3 0 1 (by omega) (by omega)
  · rw [e5 k]
    exact Ow_0.bo
  · exact eo 0 0 0 (by omega) (by omega)
  · exact eo 2 0 0 (by omega) (by omega)
  · exact eo 2 0 1 (by omega) (by omega)
  · exact eo 2 0 2 (by omega) (by omega)
  · exact eo 11 0 0 (by omega) (by omega)
  · rfl
  · exact eo 22 0 j (by omega) (by omega)
  · exact eo 23 0 j (by omega) (by omega)
  · exact eo 20 0 5 (by omega) (by omega)
  · exact eo 20 0 4 (by omega) (by omega)
  · exact eo 20 0 7 (by omega) (by omega)
  · exact eo 20 0 8 (by omega) (by omega)
  · exact eo 20 0 9 (by omega) (by omega)
  · exact eo 20 0 11 (by omega) (by omega)
  · rfl
  · exact eo 20 0 14 (by omega) (by omega)
  · exact eo 16 0 0 (by omega) (by omega)
