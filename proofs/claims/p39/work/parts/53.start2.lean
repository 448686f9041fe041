/-! the law's start: the numbers -/
/-- a new street's numbers -/
def w0 (j : Nat) : Int32 := if j = 5 then 100 else if j = 6 then 20 else if j = 8 then 3 else 0
theorem HP_cases {A : AT} {σ : Sg} {a : Nat} {c : EC} (h : HP A σ a = some c) : (∃ kd k i, vl kd k i = true ∧ A kd k i = a ∧ c = cellT A σ kd k i) ∨ (nA A a ∧ a = σ.2.2.2.1 ∧ c = .inr (.byte, σ.2.2.2.2.1, fun j => .int (σ.2.2.2.2.2 j))) := by
  unfold HP at h
  by_cases hx : ∃ q : Nat × Nat × Nat, vl q.1 q.2.1 q.2.2 = true ∧ A q.1 q.2.1 q.2.2 = a
  · rw [dif_pos hx] at h
    exact Or.inl ⟨_, _, _, hx.choose_spec.1, hx.choose_spec.2, (Option.some.inj h).symm⟩
  · rw [dif_neg hx] at h
    by_cases e : a = σ.2.2.2.1
    · rw [if_pos e] at h
      exact Or.inr ⟨fun kd k i h1 h2 => hx ⟨(kd, k, i), h1, h2⟩, e, (Option.some.inj h).symm⟩
    · rw [if_neg e] at h
      cases h
def sg0 (f : Nat → Nat) : Sg := (fun a b c => if a = 5 then w0 c else if a = 0 ∧ c = 1 then -1 else 0, fun _ => 0, fun _ => 0, f 186, 16, fun _ => 0)
theorem mA_f {b1 n : Nat} {f : Nat → Nat} (h : n < 187) : mA b1 f (1 + n) = f n := by
  unfold mA
  rw [if_neg (by omega), Nat.add_sub_cancel_left]
theorem w0_z {j : Nat} (h : 9 ≤ j) : w0 j = 0 := by
  unfold w0
  rw [if_neg (by omega), if_neg (by omega), if_neg (by omega)]
theorem sI_b {k : Nat} (h : k < 11) : 1 ≤ sI k ∧ sI k + 16 ≤ 181 := by
  unfold sI
  split
  · omega
  · split <;> omega
theorem fc_st {f : Nat → Nat} {C : Nat → EC} (h : fcC f C) {k : Nat} (hk : k < 11) : C (sI k) = .inl (5, stF (fun m => f (sI k + 1 + m))) ∧ stC (fun m => f (sI k + 1 + m)) (fun m => C (sI k + 1 + m)) 8 4 := by
  obtain ⟨c0, cw, c18, ch, c164, cs, -⟩ := h
  by_cases k0 : k = 0
  · subst k0
    obtain ⟨w1, w2, -⟩ := cw
    refine ⟨(show C 1 = _ from w1).trans (congrArg (fun z => (Sum.inl (5, z) : EC)) (stF_c (fun m hm => ?_))), stC_c (fun m hm => ?_) (fun m hm => ?_) w2⟩
    · show f (1 + (1 + m)) = f (1 + 1 + m)
      congr 1
      omega
    · show f (1 + (1 + m)) = f (1 + 1 + m)
      congr 1
      omega
    · show C (1 + (1 + m)) = C (1 + 1 + m)
      congr 1
      omega
  · by_cases k1 : k = 1
    · subst k1
      exact ⟨c164, cs⟩
    · obtain ⟨-, hh⟩ := ch
      obtain ⟨u1, u2⟩ := hh (k - 2) (by omega)
      have es : sI k = 20 + 16 * (k - 2) := by unfold sI; rw [if_neg k0, if_neg k1]
      refine ⟨?_, stC_c (fun m hm => ?_) (fun m hm => ?_) u2⟩
      · rw [es, show 20 + 16 * (k - 2) = 19 + (1 + 16 * (k - 2)) by omega]
        refine u1.trans (congrArg (fun z => (Sum.inl (5, z) : EC)) (stF_c (fun m hm => ?_)))
        show f (19 + (2 + 16 * (k - 2) + m)) = f (19 + (1 + 16 * (k - 2)) + 1 + m)
        congr 1
        omega
      · show f (19 + (2 + 16 * (k - 2) + m)) = f (sI k + 1 + m)
        congr 1
        omega
      · show C (19 + (2 + 16 * (k - 2) + m)) = C (sI k + 1 + m)
        congr 1
        omega
theorem ceq_rf (c : EC) : ceq c c := by
  cases c with
  | inl x => exact rfl
  | inr x => exact ⟨rfl, rfl, fun _ _ => rfl⟩

set_option maxRecDepth 20000 in
theorem start_sub {b1 : Nat} {f : Nat → Nat} {C : Nat → EC} {Gf : GH} (hb1 : Gf b1 = some (.inl (7, fcF f))) (hf : ∀ i, i < 187 → Gf (f i) = some (C i)) (hC : fcC f C) : ∀ a d, HP (atA b1 f) (sg0 f) a = some d → ∃ c, Gf a = some c ∧ ceq c d := by
  intro a d h
  have hC9 := hC
  obtain ⟨c0, cw, c18, ch, c164, cs, c180, ⟨c181, c182, c183, c184⟩, c185, c186⟩ := hC
  have st : ∀ k n, k < 11 → n < 16 → (atA b1 f) 5 k 0 = f (sI k) ∧ mA b1 f (1 + (sI k + n)) = f (sI k + n) := fun k n hk hn => by
    have := sI_b hk
    exact ⟨mA_f (by omega), mA_f (by omega)⟩
  rcases HP_cases h with ⟨kd, k, i, v1, v2, rfl⟩ | ⟨x1, x2, rfl⟩
  · subst v2
    obtain ⟨b1', b2', b3'⟩ := vl_b v1
    rcases (by omega : kd = 0 ∨ kd = 1 ∨ kd = 2 ∨ kd = 3 ∨ kd = 4 ∨ kd = 5 ∨ kd = 6 ∨ kd = 7 ∨ kd = 8 ∨ kd = 9 ∨ kd = 10 ∨ kd = 11 ∨ kd = 12 ∨ kd = 13 ∨ kd = 14 ∨ kd = 15 ∨ kd = 16) with rfl | rfl | rfl | rfl | rfl | rfl | rfl | rfl | rfl | rfl | rfl | rfl | rfl | rfl | rfl | rfl | rfl
    · obtain ⟨rfl, rfl⟩ : k = 0 ∧ i = 0 := by simpa [vl] using v1
      exact ⟨_, hb1, rfl⟩
    · obtain ⟨rfl, rfl⟩ : k = 0 ∧ i = 0 := by simpa [vl] using v1
      exact ⟨_, (hf 0 (by decide)).trans (congrArg some c0), rfl⟩
    · obtain ⟨rfl, rfl⟩ : k = 0 ∧ i = 0 := by simpa [vl] using v1
      exact ⟨_, (hf 17 (by decide)).trans (congrArg some cw.2.2), rfl⟩
    · obtain ⟨rfl, rfl⟩ : k = 0 ∧ i = 0 := by simpa [vl] using v1
      exact ⟨_, (hf 18 (by decide)).trans (congrArg some c18), rfl⟩
    · obtain ⟨rfl, rfl⟩ : k = 0 ∧ i = 0 := by simpa [vl] using v1
      refine ⟨_, (hf 19 (by decide)).trans (congrArg some ch.1), rfl, rfl, fun j hj => ?_⟩
      have hj9 : j < 9 := hj
      show (if j < 9 then Value.ref (f (19 + (1 + 16 * j))) else .null) = Value.ref (mA b1 f (1 + sI (2 + j)))
      have es : sI (2 + j) = 20 + 16 * j := by unfold sI; rw [if_neg (by omega), if_neg (by omega)]; omega
      rw [if_pos hj9, mA_f (by omega), es]
      congr 2
      omega
    · obtain rfl : i = 0 := by simp [vl] at v1; omega
      have hb := sI_b b2'
      refine ⟨_, (congrArg Gf (mA_f (by omega))).trans ((hf _ (by omega)).trans (congrArg some (fc_st hC9 b2').1)), ?_⟩
      have m1 : mA b1 f (1 + (sI k + 1)) = f (sI k + 1) := mA_f (by omega)
      have m2 : mA b1 f (1 + (sI k + 2)) = f (sI k + 2) := mA_f (by omega)
      have m3 : mA b1 f (1 + (sI k + 3)) = f (sI k + 3) := mA_f (by omega)
      show (_, _) = (_, [Value.ref (mA b1 f (1 + (sI k + 1))), Value.ref (mA b1 f (1 + (sI k + 2))), Value.ref (mA b1 f (1 + (sI k + 3))), _, _, _, _, _, _, _, _, _, _])
      rw [m1, m2, m3]
      rfl
    · obtain rfl : i = 0 := by simp [vl] at v1; omega
      have hb := sI_b b2'
      refine ⟨_, (congrArg Gf (mA_f (by omega))).trans ((hf _ (by omega)).trans (congrArg some (fc_st hC9 b2').2.1)), rfl, rfl, fun j hj => ?_⟩
      have hj9 : j < 8 := hj
      show (if j < 8 then Value.ref (f (sI k + 1 + (3 + j))) else .null) = Value.ref (mA b1 f (1 + (sI k + 4 + j)))
      rw [if_pos hj9, mA_f (by omega)]
      congr 2
      omega
    · obtain rfl : i = 0 := by simp [vl] at v1; omega
      have hb := sI_b b2'
      refine ⟨_, (congrArg Gf (mA_f (by omega))).trans ((hf _ (by omega)).trans (congrArg some (fc_st hC9 b2').2.2.1)), rfl, rfl, fun j hj => ?_⟩
      have hj9 : j < 4 := hj
      show (if j < 4 then Value.ref (f (sI k + 1 + (11 + j))) else .null) = Value.ref (mA b1 f (1 + (sI k + 12 + j)))
      rw [if_pos hj9, mA_f (by omega)]
      congr 2
      omega
    · obtain rfl : i = 0 := by simp [vl] at v1; omega
      have hb := sI_b b2'
      refine ⟨_, (congrArg Gf (mA_f (by omega))).trans ((hf _ (by omega)).trans (congrArg some (fc_st hC9 b2').2.2.2.1)), rfl, rfl, fun j hj => ?_⟩
      have hj9 : j < 4 := hj
      show Value.int 0 = arn 4 (fun j => w0 (10 + j)) j
      rw [arn, if_pos hj9, w0_z (by omega)]
    · have hb := sI_b b2'
      refine ⟨_, (congrArg Gf (mA_f (by omega))).trans ((hf _ (by omega)).trans (congrArg some ((congrArg C (show sI k + 4 + i = sI k + 1 + (3 + i) by omega)).trans ((fc_st hC9 b2').2.2.2.2.1 i b3')))), ?_⟩
      show (3, [Value.int 0, Value.int 0, Value.int 0, Value.int 0, Value.int 0, Value.int 0, Value.int 0, Value.int 0, Value.int 0]) = (3, [Value.int (w0 (hx i 0)), Value.int (w0 (hx i 1)), Value.int (w0 (hx i 2)), Value.int (w0 (hx i 3)), Value.int (w0 (hx i 4)), Value.int (w0 (hx i 5)), Value.int (w0 (hx i 6)), Value.int (w0 (hx i 7)), Value.int (w0 (hx i 8))])
      have z : ∀ q, w0 (hx i q) = 0 := fun q => w0_z (by unfold hx; omega)
      simp only [z]
    · have hb := sI_b b2'
      have hi4 : i < 4 := by simp [vl] at v1; omega
      refine ⟨_, (congrArg Gf (mA_f (by omega))).trans ((hf _ (by omega)).trans (congrArg some ((congrArg C (show sI k + 12 + i = sI k + 1 + (11 + i) by omega)).trans ((fc_st hC9 b2').2.2.2.2.2 i hi4)))), ?_⟩
      show (0, [Value.int 0, Value.int 0, Value.int 0, Value.int 0]) = (0, [Value.int (w0 (kx i 0)), Value.int (w0 (kx i 1)), Value.int (w0 (kx i 2)), Value.int (w0 (kx i 3))])
      have z : ∀ q, w0 (kx i q) = 0 := fun q => w0_z (by unfold kx; omega)
      simp only [z]
    · obtain ⟨rfl, rfl⟩ : k = 0 ∧ i = 0 := by simpa [vl] using v1
      exact ⟨_, (hf 180 (by decide)).trans (congrArg some c180), rfl⟩
    · obtain ⟨rfl, rfl⟩ : k = 0 ∧ i = 0 := by simpa [vl] using v1
      exact ⟨_, (hf 181 (by decide)).trans (congrArg some c181), ⟨rfl, rfl, fun j hj => rfl⟩⟩
    · obtain ⟨rfl, rfl⟩ : k = 0 ∧ i = 0 := by simpa [vl] using v1
      exact ⟨_, (hf 182 (by decide)).trans (congrArg some c182), ⟨rfl, rfl, fun j hj => rfl⟩⟩
    · obtain ⟨rfl, rfl⟩ : k = 0 ∧ i = 0 := by simpa [vl] using v1
      exact ⟨_, (hf 183 (by decide)).trans (congrArg some c183), ⟨rfl, rfl, fun j hj => rfl⟩⟩
    · obtain ⟨rfl, rfl⟩ : k = 0 ∧ i = 0 := by simpa [vl] using v1
      exact ⟨_, (hf 184 (by decide)).trans (congrArg some c184), ⟨rfl, rfl, fun j hj => rfl⟩⟩
    · obtain ⟨rfl, rfl⟩ : k = 0 ∧ i = 0 := by simpa [vl] using v1
      exact ⟨_, (hf 185 (by decide)).trans (congrArg some c185), rfl⟩
  · exact ⟨_, (congrArg Gf x2).trans ((hf 186 (by decide)).trans (congrArg some c186)), rfl, rfl, fun j hj => rfl⟩
