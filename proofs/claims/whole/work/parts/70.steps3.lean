/-! steps of the calls that are neither: characters, texts, lines, undo, snapshot, the mean and the share -/
theorem u16_of {a : UInt32} (h : a.toNat < 65536) : a.toUInt16.toUInt32 = a := by
  apply UInt32.toNat_inj.mp
  simp
  omega
theorem chr_n (y : Int32) : narrow .char (.int (y.toUInt32 % 65536).toInt32) = .int (y.toUInt32 % 65536).toInt32 := by
  show Value.int ((y.toUInt32 % 65536).toInt32.toUInt32.toUInt16.toUInt32.toInt32) = _
  have h : (y.toUInt32 % 65536).toInt32.toUInt32 = y.toUInt32 % 65536 := rfl
  rw [h, u16_of]
  rw [UInt32.toNat_mod]
  exact Nat.mod_lt _ (by decide)
theorem chr_b (y : Int32) : ∃ ch, ch < 65536 ∧ (y.toUInt32 % 65536).toInt32 = nI ch := by
  refine ⟨(y.toUInt32 % 65536).toNat, ?_, ?_⟩
  · rw [UInt32.toNat_mod]
    exact Nat.mod_lt _ (by decide)
  · show _ = Int32.ofNat (y.toUInt32 % 65536).toNat
    have e : UInt32.ofNat (y.toUInt32 % 65536).toNat = y.toUInt32 % 65536 := UInt32.ofNat_toNat
    exact (congrArg UInt32.toInt32 e).symm
/-- a wrapper that throws one thing, both ends known -/
theorem wr1 {B : Nat} {A : AT} {τ ρ : Sg} {C C' : Prop} {X Y : String} {v : Int32} (hA : AOK B A) (r : Option Value) (G' : GH) (z : (∃ (σ1 : Sg) (v' : Int32), (C ∧ some (Value.int v') = some (.int v) ∧ HP A σ1 = HP A τ) ∧ r = some (.int 0) ∧ G' = HP A (sl σ1 v'.toInt64)) ∨ (∃ σ1 : Sg, (C' ∧ X = Y ∧ HP A σ1 = HP A ρ) ∧ r = some (.int 1) ∧ G' = HP A σ1)) : ∃ (k : Nat) (σ1 : Sg), r = some (.int (nI k)) ∧ G' = HP A σ1 ∧ ((k = 0 ∧ C ∧ σ1 = sl τ v.toInt64) ∨ (k = 1 ∧ C' ∧ σ1 = ρ)) := by
  rcases z with ⟨σ1, v', ⟨h0, hv, e⟩, rfl, rfl⟩ | ⟨σ1, ⟨h0, -, e⟩, rfl, rfl⟩
  · injection hv with hv
    injection hv with hv
    subst hv
    exact ⟨0, sl τ v'.toInt64, rfl, sl_cg hA e, Or.inl ⟨rfl, h0, rfl⟩⟩
  · exact ⟨1, ρ, rfl, e, Or.inr ⟨rfl, h0, rfl⟩⟩
/-! texts: places behind the length don't count -/
theorem dgt_cg {t u : Nat → Int32} {n : Nat} (h : ∀ j, j < n → t j = u j) : dgt t n = dgt u n := by
  funext p
  unfold dgt
  by_cases hp : p < n
  · rw [h p hp]
  · simp [hp]
theorem pMark_cg {t u : Nat → Int32} {n : Nat} (h : ∀ j, j < n → t j = u j) : pMark t n = pMark u n := by
  funext p c
  unfold pMark
  by_cases hp : p < n
  · rw [h p hp]
  · simp [hp]
theorem pK_cg {t u : Nat → Int32} {n : Nat} (h : ∀ j, j < n → t j = u j) : pK t n = pK u n := by
  funext p
  unfold pK
  by_cases hp : p < n
  · rw [if_pos hp, if_pos hp, h p hp]
  · rw [if_neg hp, if_neg hp]
theorem pNum_cg {t u : Nat → Int32} {n : Nat} (h : ∀ j, j < n → t j = u j) : ∀ (r p : Nat) (v : Int32), pNum t n r p v = pNum u n r p v
  | 0, p, v => rfl
  | r + 1, p, v => by
    unfold pNum
    rw [dgt_cg h]
    by_cases hd : dgt u n p = true
    · have hp : p < n := by
        unfold dgt at hd
        by_cases hp : p < n
        · exact hp
        · simp [hp] at hd
      rw [if_pos hd, if_pos hd, h p hp]
      exact pNum_cg h r _ _
    · rw [if_neg hd, if_neg hd]
theorem pCmd_cg {t u : Nat → Int32} {n : Nat} (h : ∀ j, j < n → t j = u j) (p : Nat) : pCmd t n p = pCmd u n p := by
  have e1 : ∀ r p v, pNum t n r p v = pNum u n r p v := pNum_cg h
  unfold pCmd
  simp only [pK_cg h, pMark_cg h, e1]
theorem pGo_cg {t u : Nat → Int32} {n : Nat} (h : ∀ j, j < n → t j = u j) : ∀ (f p : Nat), pGo t n f p = pGo u n f p
  | 0, p => rfl
  | f + 1, p => by
    unfold pGo
    simp only [pCmd_cg h, pMark_cg h, pGo_cg h f]
/-! lines -/
theorem dig_128 {v x : Nat} (hv : v < 100) (h : x ∈ dig v) : x < 128 := by
  unfold dig at h
  split at h
  · rw [List.mem_singleton] at h
    omega
  · rcases List.mem_cons.mp h with e | e
    · omega
    · rw [List.mem_singleton] at e
      omega
theorem lnT_128 {m h : Nat} {w : Nat → Int32} (hW : Wb m w) (hh : h < 8) : ∀ x, x ∈ lnT w h → x < 128 := by
  intro x hx9
  obtain ⟨a3, b3, c3⟩ := hW.h (i := h) (f := 3) hh (by decide) rfl
  obtain ⟨a4, b4, c4⟩ := hW.h (i := h) (f := 4) hh (by decide) rfl
  unfold lnT lnB nN at hx9
  rw [c3, c4, nI_clamp (by omega), nI_clamp (by omega)] at hx9
  simp only [List.mem_append, List.mem_singleton, List.not_mem_nil, false_or] at hx9
  rcases hx9 with (((((e | e) | e) | e) | e) | e) | e
  · exact dig_128 (by omega) e
  · omega
  · exact dig_128 (by omega) e
  · omega
  · exact dig_128 (by omega) e
  · have := (List.mem_replicate.mp e).2
    omega
  · unfold dogT at e
    split at e
    · rw [List.mem_singleton] at e
      omega
    · split at e
      · rw [List.mem_singleton] at e
        omega
      · split at e
        · rw [List.mem_singleton] at e
          omega
        · cases e
theorem getD_lt {L : List Nat} (h : ∀ x, x ∈ L → x < 128) : ∀ i, i < L.length → L.getD i 0 < 128 := fun i hi => by
  rw [List.getD_eq_getElem?_getD, List.getElem?_eq_getElem hi]
  exact h _ (List.getElem_mem hi)
/-! the mean -/
theorem mean_nn {x y : Int32} (hy : ¬ y = 0) : FP.Core.fIsNaN (FP.fdiv (FP.i2f x) (FP.i2f y)) = false := by
  have h := fdiv_mg (x := x) hy
  cases e : FP.Core.fIsNaN (FP.fdiv (FP.i2f x) (FP.i2f y)) with
  | false => rfl
  | true =>
    have := (FP.Core.isNaN_bits32 _).mp e
    omega
theorem mean_d {v : UInt32} (h : FP.Core.fIsNaN v = false) : FP.Core.dIsNaN (FP.f2d v) = false := by
  have e : FP.f2d v = FP.Core.f2d v := by
    unfold FP.f2d
    rw [h]
    rfl
  rw [e]
  exact FP.Core.f2d_out h
theorem mean_v {v : UInt32} (h : FP.Core.fIsNaN v = false) : vf_n64 (FP.f2d v) := by
  have hd := mean_d h
  unfold vf_n64
  rw [UInt64.le_iff_toNat_le, b63]
  have e : (0x7ff0000000000000 : UInt64).toNat = 9218868437227405312 := by decide
  rw [e]
  refine Nat.le_of_not_lt (fun z => ?_)
  rw [(FP.Core.isNaN_bits (FP.f2d v)).mpr z] at hd
  cases hd
theorem mean_c {v : UInt32} (h : FP.Core.fIsNaN v = false) : Op.cmpValue (FP.dcmp (FP.f2d v) (FP.f2d v)) .l = 0 := by
  have e : FP.dcmp (FP.f2d v) (FP.f2d v) = some .eq := FP.Core.dcmp_self ((FP.Core.notNaN_iff _).mp (mean_d h))
  rw [e]
  rfl
