/-! the StringBuilder: more room, characters -/
theorem dJ1_canEncode_fc78d_0 : decode cJ1_canEncode_fc78d 0 = .ok (.iload_n 0, 1) := by decide +kernel
theorem dJ1_canEncode_fc78d_1 : decode cJ1_canEncode_fc78d 1 = .ok (.sipush 255, 3) := by decide +kernel
theorem dJ1_canEncode_fc78d_4 : decode cJ1_canEncode_fc78d 4 = .ok (.if_icmp .gt 7, 3) := by decide +kernel
theorem dJ1_canEncode_fc78d_7 : decode cJ1_canEncode_fc78d 7 = .ok (.iconst 1, 1) := by decide +kernel
theorem dJ1_canEncode_fc78d_8 : decode cJ1_canEncode_fc78d 8 = .ok (.goto 4, 3) := by decide +kernel
theorem dJ1_canEncode_fc78d_11 : decode cJ1_canEncode_fc78d 11 = .ok (.iconst 0, 1) := by decide +kernel
theorem dJ1_canEncode_fc78d_12 : decode cJ1_canEncode_fc78d 12 = .ok (.ireturn, 1) := by decide +kernel
theorem dJ5_append_3fe6f_0 : decode cJ5_append_3fe6f 0 = .ok (.aload_n 0, 1) := by decide +kernel
theorem dJ5_append_3fe6f_1 : decode cJ5_append_3fe6f 1 = .ok (.aload_n 0, 1) := by decide +kernel
theorem dJ5_append_3fe6f_2 : decode cJ5_append_3fe6f 2 = .ok (.getfield 79, 3) := by decide +kernel
theorem dJ5_append_3fe6f_5 : decode cJ5_append_3fe6f 5 = .ok (.iconst 1, 1) := by decide +kernel
theorem dJ5_append_3fe6f_6 : decode cJ5_append_3fe6f 6 = .ok (.iadd, 1) := by decide +kernel
theorem dJ5_append_3fe6f_7 : decode cJ5_append_3fe6f 7 = .ok (.invokevirtual 100, 3) := by decide +kernel
theorem dJ5_append_3fe6f_10 : decode cJ5_append_3fe6f 10 = .ok (.aload_n 0, 1) := by decide +kernel
theorem dJ5_append_3fe6f_11 : decode cJ5_append_3fe6f 11 = .ok (.invokevirtual 83, 3) := by decide +kernel
theorem dJ5_append_3fe6f_14 : decode cJ5_append_3fe6f 14 = .ok (.ifCond .eq 31, 3) := by decide +kernel
theorem dJ5_append_3fe6f_17 : decode cJ5_append_3fe6f 17 = .ok (.iload_n 1, 1) := by decide +kernel
theorem dJ5_append_3fe6f_18 : decode cJ5_append_3fe6f 18 = .ok (.invokestatic 191, 3) := by decide +kernel
theorem dJ5_append_3fe6f_21 : decode cJ5_append_3fe6f 21 = .ok (.ifCond .eq 24, 3) := by decide +kernel
theorem dJ5_append_3fe6f_24 : decode cJ5_append_3fe6f 24 = .ok (.aload_n 0, 1) := by decide +kernel
theorem dJ5_append_3fe6f_25 : decode cJ5_append_3fe6f 25 = .ok (.getfield 15, 3) := by decide +kernel
theorem dJ5_append_3fe6f_28 : decode cJ5_append_3fe6f 28 = .ok (.aload_n 0, 1) := by decide +kernel
theorem dJ5_append_3fe6f_29 : decode cJ5_append_3fe6f 29 = .ok (.dup, 1) := by decide +kernel
theorem dJ5_append_3fe6f_30 : decode cJ5_append_3fe6f 30 = .ok (.getfield 79, 3) := by decide +kernel
theorem dJ5_append_3fe6f_33 : decode cJ5_append_3fe6f 33 = .ok (.dup_x1, 1) := by decide +kernel
theorem dJ5_append_3fe6f_34 : decode cJ5_append_3fe6f 34 = .ok (.iconst 1, 1) := by decide +kernel
theorem dJ5_append_3fe6f_35 : decode cJ5_append_3fe6f 35 = .ok (.iadd, 1) := by decide +kernel
theorem dJ5_append_3fe6f_36 : decode cJ5_append_3fe6f 36 = .ok (.putfield 79, 3) := by decide +kernel
theorem dJ5_append_3fe6f_39 : decode cJ5_append_3fe6f 39 = .ok (.iload_n 1, 1) := by decide +kernel
theorem dJ5_append_3fe6f_40 : decode cJ5_append_3fe6f 40 = .ok (.i2b, 1) := by decide +kernel
theorem dJ5_append_3fe6f_41 : decode cJ5_append_3fe6f 41 = .ok (.bastore, 1) := by decide +kernel
theorem dJ5_append_3fe6f_42 : decode cJ5_append_3fe6f 42 = .ok (.goto 33, 3) := by decide +kernel
theorem dJ5_append_3fe6f_45 : decode cJ5_append_3fe6f 45 = .ok (.aload_n 0, 1) := by decide +kernel
theorem dJ5_append_3fe6f_46 : decode cJ5_append_3fe6f 46 = .ok (.invokevirtual 83, 3) := by decide +kernel
theorem dJ5_append_3fe6f_49 : decode cJ5_append_3fe6f 49 = .ok (.ifCond .eq 7, 3) := by decide +kernel
theorem dJ5_append_3fe6f_52 : decode cJ5_append_3fe6f 52 = .ok (.aload_n 0, 1) := by decide +kernel
theorem dJ5_append_3fe6f_53 : decode cJ5_append_3fe6f 53 = .ok (.invokevirtual 195, 3) := by decide +kernel
theorem dJ5_append_3fe6f_56 : decode cJ5_append_3fe6f 56 = .ok (.aload_n 0, 1) := by decide +kernel
theorem dJ5_append_3fe6f_57 : decode cJ5_append_3fe6f 57 = .ok (.getfield 15, 3) := by decide +kernel
theorem dJ5_append_3fe6f_60 : decode cJ5_append_3fe6f 60 = .ok (.aload_n 0, 1) := by decide +kernel
theorem dJ5_append_3fe6f_61 : decode cJ5_append_3fe6f 61 = .ok (.dup, 1) := by decide +kernel
theorem dJ5_append_3fe6f_62 : decode cJ5_append_3fe6f 62 = .ok (.getfield 79, 3) := by decide +kernel
theorem dJ5_append_3fe6f_65 : decode cJ5_append_3fe6f 65 = .ok (.dup_x1, 1) := by decide +kernel
theorem dJ5_append_3fe6f_66 : decode cJ5_append_3fe6f 66 = .ok (.iconst 1, 1) := by decide +kernel
theorem dJ5_append_3fe6f_67 : decode cJ5_append_3fe6f 67 = .ok (.iadd, 1) := by decide +kernel
theorem dJ5_append_3fe6f_68 : decode cJ5_append_3fe6f 68 = .ok (.putfield 79, 3) := by decide +kernel
theorem dJ5_append_3fe6f_71 : decode cJ5_append_3fe6f 71 = .ok (.iload_n 1, 1) := by decide +kernel
theorem dJ5_append_3fe6f_72 : decode cJ5_append_3fe6f 72 = .ok (.invokestatic 197, 3) := by decide +kernel
theorem dJ5_append_3fe6f_75 : decode cJ5_append_3fe6f 75 = .ok (.aload_n 0, 1) := by decide +kernel
theorem dJ5_append_3fe6f_76 : decode cJ5_append_3fe6f 76 = .ok (.areturn, 1) := by decide +kernel
theorem dJ4_append_cf468_0 : decode cJ4_append_cf468 0 = .ok (.aload_n 0, 1) := by decide +kernel
theorem dJ4_append_cf468_1 : decode cJ4_append_cf468 1 = .ok (.iload_n 1, 1) := by decide +kernel
theorem dJ4_append_cf468_2 : decode cJ4_append_cf468 2 = .ok (.invokespecial 50, 3) := by decide +kernel
theorem dJ4_append_cf468_5 : decode cJ4_append_cf468 5 = .ok (.pop, 1) := by decide +kernel
theorem dJ4_append_cf468_6 : decode cJ4_append_cf468 6 = .ok (.aload_n 0, 1) := by decide +kernel
theorem dJ4_append_cf468_7 : decode cJ4_append_cf468 7 = .ok (.areturn, 1) := by decide +kernel
theorem dJ5_length_8abf5_0 : decode cJ5_length_8abf5 0 = .ok (.aload_n 0, 1) := by decide +kernel
theorem dJ5_length_8abf5_1 : decode cJ5_length_8abf5 1 = .ok (.getfield 79, 3) := by decide +kernel
theorem dJ5_length_8abf5_4 : decode cJ5_length_8abf5 4 = .ok (.ireturn, 1) := by decide +kernel
theorem dJ4_length_8abf5_0 : decode cJ4_length_8abf5 0 = .ok (.aload_n 0, 1) := by decide +kernel
theorem dJ4_length_8abf5_1 : decode cJ4_length_8abf5 1 = .ok (.invokespecial 343, 3) := by decide +kernel
theorem dJ4_length_8abf5_4 : decode cJ4_length_8abf5 4 = .ok (.ireturn, 1) := by decide +kernel
theorem dJ5_setLength_d00df_0 : decode cJ5_setLength_d00df 0 = .ok (.iload_n 1, 1) := by decide +kernel
theorem dJ5_setLength_d00df_1 : decode cJ5_setLength_d00df 1 = .ok (.ifCond .ge 12, 3) := by decide +kernel
theorem dJ5_setLength_d00df_4 : decode cJ5_setLength_d00df 4 = .ok (.new 129, 3) := by decide +kernel
theorem dJ5_setLength_d00df_7 : decode cJ5_setLength_d00df 7 = .ok (.dup, 1) := by decide +kernel
theorem dJ5_setLength_d00df_8 : decode cJ5_setLength_d00df 8 = .ok (.iload_n 1, 1) := by decide +kernel
theorem dJ5_setLength_d00df_9 : decode cJ5_setLength_d00df 9 = .ok (.invokespecial 131, 3) := by decide +kernel
theorem dJ5_setLength_d00df_12 : decode cJ5_setLength_d00df 12 = .ok (.athrow, 1) := by decide +kernel
theorem dJ5_setLength_d00df_13 : decode cJ5_setLength_d00df 13 = .ok (.aload_n 0, 1) := by decide +kernel
theorem dJ5_setLength_d00df_14 : decode cJ5_setLength_d00df 14 = .ok (.iload_n 1, 1) := by decide +kernel
theorem dJ5_setLength_d00df_15 : decode cJ5_setLength_d00df 15 = .ok (.invokevirtual 100, 3) := by decide +kernel
theorem dJ5_setLength_d00df_18 : decode cJ5_setLength_d00df 18 = .ok (.aload_n 0, 1) := by decide +kernel
theorem dJ5_setLength_d00df_19 : decode cJ5_setLength_d00df 19 = .ok (.getfield 79, 3) := by decide +kernel
theorem dJ5_setLength_d00df_22 : decode cJ5_setLength_d00df 22 = .ok (.iload_n 1, 1) := by decide +kernel
theorem dJ5_setLength_d00df_23 : decode cJ5_setLength_d00df 23 = .ok (.if_icmp .ge 40, 3) := by decide +kernel
theorem dJ5_setLength_d00df_26 : decode cJ5_setLength_d00df 26 = .ok (.aload_n 0, 1) := by decide +kernel
theorem dJ5_setLength_d00df_27 : decode cJ5_setLength_d00df 27 = .ok (.invokevirtual 83, 3) := by decide +kernel
theorem dJ5_setLength_d00df_30 : decode cJ5_setLength_d00df 30 = .ok (.ifCond .eq 18, 3) := by decide +kernel
theorem dJ5_setLength_d00df_33 : decode cJ5_setLength_d00df 33 = .ok (.aload_n 0, 1) := by decide +kernel
theorem dJ5_setLength_d00df_34 : decode cJ5_setLength_d00df 34 = .ok (.getfield 15, 3) := by decide +kernel
theorem dJ5_setLength_d00df_37 : decode cJ5_setLength_d00df 37 = .ok (.aload_n 0, 1) := by decide +kernel
theorem dJ5_setLength_d00df_38 : decode cJ5_setLength_d00df 38 = .ok (.getfield 79, 3) := by decide +kernel
theorem dJ5_setLength_d00df_41 : decode cJ5_setLength_d00df 41 = .ok (.iload_n 1, 1) := by decide +kernel
theorem dJ5_setLength_d00df_42 : decode cJ5_setLength_d00df 42 = .ok (.invokestatic 133, 3) := by decide +kernel
theorem dJ5_setLength_d00df_45 : decode cJ5_setLength_d00df 45 = .ok (.goto 31, 3) := by decide +kernel
theorem dJ5_setLength_d00df_48 : decode cJ5_setLength_d00df 48 = .ok (.aload_n 0, 1) := by decide +kernel
theorem dJ5_setLength_d00df_49 : decode cJ5_setLength_d00df 49 = .ok (.getfield 15, 3) := by decide +kernel
theorem dJ5_setLength_d00df_52 : decode cJ5_setLength_d00df 52 = .ok (.aload_n 0, 1) := by decide +kernel
theorem dJ5_setLength_d00df_53 : decode cJ5_setLength_d00df 53 = .ok (.getfield 79, 3) := by decide +kernel
theorem dJ5_setLength_d00df_56 : decode cJ5_setLength_d00df 56 = .ok (.iload_n 1, 1) := by decide +kernel
theorem dJ5_setLength_d00df_57 : decode cJ5_setLength_d00df 57 = .ok (.invokestatic 137, 3) := by decide +kernel
theorem dJ5_setLength_d00df_60 : decode cJ5_setLength_d00df 60 = .ok (.goto 16, 3) := by decide +kernel
theorem dJ5_setLength_d00df_63 : decode cJ5_setLength_d00df 63 = .ok (.aload_n 0, 1) := by decide +kernel
theorem dJ5_setLength_d00df_64 : decode cJ5_setLength_d00df 64 = .ok (.getfield 79, 3) := by decide +kernel
theorem dJ5_setLength_d00df_67 : decode cJ5_setLength_d00df 67 = .ok (.iload_n 1, 1) := by decide +kernel
theorem dJ5_setLength_d00df_68 : decode cJ5_setLength_d00df 68 = .ok (.if_icmp .le 8, 3) := by decide +kernel
theorem dJ5_setLength_d00df_71 : decode cJ5_setLength_d00df 71 = .ok (.aload_n 0, 1) := by decide +kernel
theorem dJ5_setLength_d00df_72 : decode cJ5_setLength_d00df 72 = .ok (.iconst 1, 1) := by decide +kernel
theorem dJ5_setLength_d00df_73 : decode cJ5_setLength_d00df 73 = .ok (.putfield 73, 3) := by decide +kernel
theorem dJ5_setLength_d00df_76 : decode cJ5_setLength_d00df 76 = .ok (.aload_n 0, 1) := by decide +kernel
theorem dJ5_setLength_d00df_77 : decode cJ5_setLength_d00df 77 = .ok (.iload_n 1, 1) := by decide +kernel
theorem dJ5_setLength_d00df_78 : decode cJ5_setLength_d00df 78 = .ok (.putfield 79, 3) := by decide +kernel
theorem dJ5_setLength_d00df_81 : decode cJ5_setLength_d00df 81 = .ok (.return_, 1) := by decide +kernel
theorem dJ4_setLength_d00df_0 : decode cJ4_setLength_d00df 0 = .ok (.aload_n 0, 1) := by decide +kernel
theorem dJ4_setLength_d00df_1 : decode cJ4_setLength_d00df 1 = .ok (.iload_n 1, 1) := by decide +kernel
theorem dJ4_setLength_d00df_2 : decode cJ4_setLength_d00df 2 = .ok (.invokespecial 333, 3) := by decide +kernel
theorem dJ4_setLength_d00df_5 : decode cJ4_setLength_d00df 5 = .ok (.return_, 1) := by decide +kernel
theorem HP_cases {A : AT} {σ : Sg} {a : Nat} {c : EC} (h : HP A σ a = some c) : (∃ kd k i, vl kd k i = true ∧ A kd k i = a ∧ c = cellT A σ kd k i) ∨ (nA A a ∧ a = σ.2.2.2.1 ∧ c = .inr (.byte, σ.2.2.2.2.1, fun j => .int (σ.2.2.2.2.2 j))) := by
  unfold HP at h
  by_cases hx : ∃ q : Nat × Nat × Nat, vl q.1 q.2.1 q.2.2 = true ∧ A q.1 q.2.1 q.2.2 = a
  · rw [dif_pos hx] at h
    exact Or.inl ⟨_, _, _, hx.choose_spec.1, hx.choose_spec.2, (Option.some.inj h).symm⟩
  · rw [dif_neg hx] at h
    by_cases e : a = σ.2.2.2.1
    · rw [if_pos e] at h
      exact Or.inr ⟨fun kd k i h1 h2 => hx ⟨(kd, k, i), h1, h2⟩, e, (Option.some.inj h).symm⟩
    · rw [if_neg e] at h
      cases h
theorem nA_of {B : Nat} {A : AT} {σ : Sg} (hA : AOK B A) {q : Nat} (h : HP A σ q = none) : nA A q := fun kd k i h1 h2 => by
  have := HP_at (σ := σ) hA h1
  rw [h2, h] at this
  cases this
theorem cellT_o {A : AT} {σ σ' : Sg} {kd k i : Nat} (h1 : σ'.1 = σ.1) (h2 : σ'.2.1 = σ.2.1) (h3 : σ'.2.2.1 = σ.2.2.1) (h : ¬ kd = 16) : cellT A σ' kd k i = cellT A σ kd k i := by
  unfold cellT
  rw [h1, h2, h3]
  split <;> first | rfl | exact absurd rfl h
/-- a new array for the text -/
def sbN (σ : Sg) (q n : Nat) (f : Nat → Int32) : Sg := (σ.1, σ.2.1, σ.2.2.1, q, n, f)
theorem HP_grow {B : Nat} {A : AT} {σ : Sg} (hA : AOK B A) {q n : Nat} {f : Nat → Int32} (hq : HP A σ q = none) : ∀ a c, HP A (sbN σ q n f) a = some c → gset (gset (HP A σ) q (.inr (.byte, n, fun j => .int (f j)))) (A 16 0 0) (.inl (9, [.ref q, .int 0, .int (σ.1 16 0 1), .int (σ.1 16 0 0)])) a = some c := by
  intro a c h
  have h16 : ¬ A 16 0 0 = q := fun z => by
    have := hp16 (σ := σ) hA
    rw [z, hq] at this
    cases this
  rcases HP_cases h with ⟨kd, k, i, e1, e2, e3⟩ | ⟨e1, e2, e3⟩
  · by_cases z : kd = 16
    · subst z
      have ek : k = 0 ∧ i = 0 := by simpa [vl] using e1
      obtain ⟨rfl, rfl⟩ := ek
      unfold gset
      rw [if_pos e2.symm, e3]
      rfl
    · have ne : ¬ a = A 16 0 0 := fun y => z ((hA.1 _ _ _ _ _ _ e1 vl_16 (e2.trans y)).1)
      have nq : ¬ a = q := fun y => by
        have := HP_at (σ := σ) hA e1
        rw [e2, y, hq] at this
        cases this
      unfold gset
      rw [if_neg ne, if_neg nq, ← e2, HP_at hA e1, e3]
      exact congrArg some (cellT_o (A := A) (σ := σ) (σ' := sbN σ q n f) (k := k) (i := i) rfl rfl rfl z).symm
  · have e2' : a = q := e2
    unfold gset
    rw [if_neg (fun y => h16 (y.symm.trans e2')), if_pos e2', e3]
    rfl
/-- what the text's change leaves -/
def SBr (σ σ' : Sg) : Prop := (∀ a, ¬ a = 16 → σ'.1 a = σ.1 a) ∧ σ'.2.1 = σ.2.1 ∧ σ'.2.2.1 = σ.2.2.1
theorem SBr.tr {σ τ ρ : Sg} (h : SBr σ τ) (k : SBr τ ρ) : SBr σ ρ := ⟨fun a z => (k.1 a z).trans (h.1 a z), k.2.1.trans h.2.1, k.2.2.trans h.2.2⟩
theorem SBr.rf {σ : Sg} : SBr σ σ := ⟨fun _ _ => rfl, rfl, rfl⟩
theorem SBr.w {σ : Sg} {c : Nat} {x : Int32} : SBr σ (w3 σ 16 0 c x) := ⟨fun a z => funext fun b => funext fun d => w3_ne (fun q => z q.1), rfl, rfl⟩
def enP (A : AT) (σ : Sg) (L : List Nat) (k : Nat) (r : Option Value) (G' : GH) : Prop := ∃ σ' : Sg, r = none ∧ G' = HP A σ' ∧ σ'.1 = σ.1 ∧ σ'.2.1 = σ.2.1 ∧ σ'.2.2.1 = σ.2.2.1 ∧ SBok A σ' L ∧ k ≤ σ'.2.2.2.2.1
theorem le_d {k n : Nat} (hk : k ≤ 100) (hn : n ≤ 100) : (nI k - nI n ≤ 0) ↔ k ≤ n := by
  rw [Int32.le_iff_toInt_le, pk_sub_toInt (by omega) (by omega), show (0 : Int32).toInt = 0 from by decide]
  omega

set_option maxHeartbeats 4000000 in
set_option maxRecDepth 100000 in
theorem t_J5_ensureCapacityInternal_d00df {D : va_G} {s0 : State} {l : Launch} {B : Nat} {A : AT} {σ : Sg} (hA : AOK B A) {L : List Nat} (hS : SBok A σ L) {k : Nat} (hk : k ≤ 34) : Tri D s0 l yJ5_ensureCapacityInternal_d00df cJ5_ensureCapacityInternal_d00df 3 (none) 3 1 34 [.ref (A 16 0 0), .int (nI k)] (HP A σ) (enP A σ L k) noX := by
  refine Tri.ofV (own := RJ5) (mn := "ensureCapacityInternal") (by decide +kernel) rfl rfl (Nat.le_of_ble_eq_true rfl) ?_
  have hn34 : σ.2.2.2.2.1 ≤ 34 := by rcases hS.2.1 with h | h <;> omega
  by_cases hkn : k ≤ σ.2.2.2.2.1
  · refine V_aload_n (i := 0) dJ5_ensureCapacityInternal_d00df_0 rfl rfl ?_
    refine V_getf fl_J5_15 dJ5_ensureCapacityInternal_d00df_1 (hp16 hA) rfl ?_
    refine V_alen dJ5_ensureCapacityInternal_d00df_4 hS.sb rfl ?_
    refine V_aload_n (i := 0) dJ5_ensureCapacityInternal_d00df_5 rfl rfl ?_
    refine V_getf fl_J5_22 dJ5_ensureCapacityInternal_d00df_6 (hp16 hA) rfl ?_
    refine V_ishr dJ5_ensureCapacityInternal_d00df_9 ?_
    rw [shr0]
    refine V_istore_n (i := 2) dJ5_ensureCapacityInternal_d00df_10 rfl (by decide) ?_
    refine V_iload_n (i := 1) dJ5_ensureCapacityInternal_d00df_11 rfl rfl ?_
    refine V_iload_n (i := 2) dJ5_ensureCapacityInternal_d00df_12 rfl rfl ?_
    refine V_isub dJ5_ensureCapacityInternal_d00df_13 ?_
    refine V_if_le (tgt := 38) dJ5_ensureCapacityInternal_d00df_14 (by decide) (fun _ => ?_) (fun h14 => by first | exact absurd ((le_d (by omega) (by omega)).mpr hkn) h14 | exact absurd h14 ((le_d (by omega) (by omega)).mpr hkn))
    refine V_vret dJ5_ensureCapacityInternal_d00df_38 rfl (Nat.le_of_ble_eq_true rfl) (Nat.le_of_ble_eq_true rfl) ?_
    exact ⟨σ, rfl, rfl, rfl, rfl, rfl, hS, hkn⟩
  · have h16 : σ.2.2.2.2.1 = 16 := by rcases hS.2.1 with h | h <;> omega
    have hsb : HP A σ σ.2.2.2.1 = some (.inr (.byte, 16, fun j => .int (σ.2.2.2.2.2 j))) := by rw [← h16]; exact hS.sb
    refine V_aload_n (i := 0) dJ5_ensureCapacityInternal_d00df_0 rfl rfl ?_
    refine V_getf fl_J5_15 dJ5_ensureCapacityInternal_d00df_1 (hp16 hA) rfl ?_
    refine V_alen dJ5_ensureCapacityInternal_d00df_4 hS.sb rfl ?_
    refine V_aload_n (i := 0) dJ5_ensureCapacityInternal_d00df_5 rfl rfl ?_
    refine V_getf fl_J5_22 dJ5_ensureCapacityInternal_d00df_6 (hp16 hA) rfl ?_
    refine V_ishr dJ5_ensureCapacityInternal_d00df_9 ?_
    rw [shr0]
    refine V_istore_n (i := 2) dJ5_ensureCapacityInternal_d00df_10 rfl (by decide) ?_
    refine V_iload_n (i := 1) dJ5_ensureCapacityInternal_d00df_11 rfl rfl ?_
    refine V_iload_n (i := 2) dJ5_ensureCapacityInternal_d00df_12 rfl rfl ?_
    refine V_isub dJ5_ensureCapacityInternal_d00df_13 ?_
    refine V_if_le (tgt := 38) dJ5_ensureCapacityInternal_d00df_14 (by decide) (fun h14 => by first | exact absurd h14 ((fun z => hkn ((le_d (by omega) (by omega)).mp z))) | exact absurd ((fun z => hkn ((le_d (by omega) (by omega)).mp z))) h14) (fun _ => ?_)
    refine V_aload_n (i := 0) dJ5_ensureCapacityInternal_d00df_17 rfl rfl ?_
    refine V_aload_n (i := 0) dJ5_ensureCapacityInternal_d00df_18 rfl rfl ?_
    refine V_getf fl_J5_15 dJ5_ensureCapacityInternal_d00df_19 (hp16 hA) rfl ?_
    refine V_aload_n (i := 0) dJ5_ensureCapacityInternal_d00df_22 rfl rfl ?_
    refine V_iload_n (i := 1) dJ5_ensureCapacityInternal_d00df_23 rfl rfl ?_
    refine V_callU (d := 3) cu_J5_104 dJ5_ensureCapacityInternal_d00df_24 (t_J5_newCapacity_0f7a4 (σ := σ) hA rfl hsb (by omega) hk) (hp16 hA) rfl rfl (Nat.le_of_ble_eq_true rfl) ⟨Nat.le_refl _, Nat.le_refl _⟩ (by decide) ⟨Nat.le_of_ble_eq_true rfl, Nat.le_of_ble_eq_true rfl⟩ ?_ (fun _ _ h => h.elim)
    rintro r G' ⟨rfl, rfl⟩
    refine V_aload_n (i := 0) dJ5_ensureCapacityInternal_d00df_27 rfl rfl ?_
    refine V_getf fl_J5_22 dJ5_ensureCapacityInternal_d00df_28 (hp16 hA) rfl ?_
    refine V_ishl dJ5_ensureCapacityInternal_d00df_31 ?_
    rw [shl0]
    refine V_callsX (d := 3) csx_J5_108 dJ5_ensureCapacityInternal_d00df_32 (t_J7_copyOf_9075b hsb hS.2.2.2.2.1) rfl rfl (Nat.le_of_ble_eq_true rfl) ⟨Nat.le_refl _, Nat.le_refl _⟩ (by decide) ⟨Nat.le_of_ble_eq_true rfl, Nat.le_of_ble_eq_true rfl⟩ ?_ (fun _ _ h => h.elim)
    rintro r G' ⟨q, f', rfl, hq1, hq2, rfl, hf'⟩
    refine V_putf (a := A 16 0 0) (ty := .array .byte) fl_J5_15 dJ5_ensureCapacityInternal_d00df_35 (fs := [.ref σ.2.2.2.1, .int 0, .int (σ.1 16 0 1), .int (σ.1 16 0 0)]) ?_ (fun q9 hq9 => by cases hq9; exact Or.inl rfl) (fun q9 hq9 => by cases hq9; decide +kernel) rfl rfl (Nat.le_of_ble_eq_true rfl) ?_
    · unfold gset
      rw [if_neg (fun z => by have := hp16 (σ := σ) hA; rw [z, hq2] at this; cases this)]
      exact hp16 hA
    refine V.sub (G' := HP A (sbN σ q 34 f')) (HP_grow hA hq2) ?_
    refine V_vret dJ5_ensureCapacityInternal_d00df_38 rfl (Nat.le_of_ble_eq_true rfl) (Nat.le_of_ble_eq_true rfl) ?_
    have hlen := hS.2.2.2.1
    refine ⟨sbN σ q 34 f', rfl, rfl, rfl, rfl, rfl, ⟨nA_of hA hq2, Or.inr rfl, hS.2.2.1, Nat.le_trans hlen hn34, fun i => ?_, fun i hi => ?_⟩, hk⟩
    · show ∃ b, b < 128 ∧ f' i = nI b
      rw [hf']
      split
      · exact hS.2.2.2.2.1 i
      · exact ⟨0, by decide, rfl⟩
    · show f' i = _
      rw [hf', if_pos (by omega)]
      exact hS.2.2.2.2.2 i hi

