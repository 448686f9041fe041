/-! the law: its start -/
set_option maxHeartbeats 4000000 in
set_option maxRecDepth 100000 in
theorem law_start {D : va_G} {s0 : State} {mn : String} {nL : Nat} {ret : Option FieldType} {hh : List (Nat × Nat × Nat × Nat)} {l : Launch} {R : Room} {Z : ZT} {arg : Nat} (hR : 7 + 5 ≤ R.frames ∧ 35 * 7 + 120 ≤ R.locals) (hce : 300 ≤ R.cells) (hsl : 4000 ≤ R.slots)
    (k : ∀ (A : AT) (f : Nat → Nat), AOK s0.heap.size A → V D s0 RL mn cL_law nL ret hh l R Z 8 [(0, .ref arg), (1, .ref (A 0 0 0))] [] (HP A (sg0 f)) 200 2000) (hnL : 8 ≤ nL) : V D s0 RL mn cL_law nL ret hh l R Z 0 [(0, .ref arg)] [] (fun _ => none) 0 0 := by
  refine V_new (ci := 7) (C := RX7) (T := TX7) (N := 9) (ty := tyX7) (fs := [.null, .null, .null, .null, .null, .int 0, .null, .int 0, .null]) dL_law_0 rfl uw_X7 tyX7_ok cl_L_20 is_X7 in_X7 (by decide) (by omega) (by omega) (fun b1 hq1 hn1 => ?_)
  refine V_dup dL_law_3 rfl ?_
  refine V_callI (d := 7) ci_L_114 rfl dL_law_4 (t_X7_init (if_pos rfl)) rfl rfl (Nat.le_of_ble_eq_true rfl) hR (by decide) ⟨by omega, by omega⟩ ?_ (fun _ _ h => h.elim)
  rintro r G' ⟨f, C, rfl, hF, rfl, hC⟩
  refine V_astore_n (i := 1) dL_law_7 rfl (by omega) ?_
  have hA : AdP s0.heap.size b1 f := ⟨hq1, fun i hi => ⟨(hF.1 i hi).2.2, (hF.1 i hi).1⟩, hF.2⟩
  refine V.sub2 (G' := HP (atA b1 f) (sg0 f)) (start_sub (C := C) FH_b (fun i hi => FH_f hF hi) hC) ?_
  exact V.fin [1, 0] rfl rfl (V.wid (k := 200) (n := 2000) (by decide) (by decide) (k (atA b1 f) f (atA_ok hA)))
theorem Wb_0 : Wb 0 w0 := fun j B h => by
  by_cases h9 : j < 9
  · rcases (by omega : j = 0 ∨ j = 1 ∨ j = 2 ∨ j = 3 ∨ j = 4 ∨ j = 5 ∨ j = 6 ∨ j = 7 ∨ j = 8) with rfl | rfl | rfl | rfl | rfl | rfl | rfl | rfl | rfl
    · cases h
    · exact ⟨0, Nat.zero_le _, rfl⟩
    · exact ⟨0, Nat.zero_le _, rfl⟩
    · exact ⟨0, Nat.zero_le _, rfl⟩
    · exact ⟨0, Nat.zero_le _, rfl⟩
    · cases h
    · cases h
    · cases h
    · injection h with h
      exact ⟨3, by omega, rfl⟩
  · exact ⟨0, Nat.zero_le _, (w0_z (by omega)).trans nI_0.symm⟩
theorem sg0_5 {f : Nat → Nat} : (sg0 f).1 5 0 = w0 := funext fun j => by
  unfold sg0
  dsimp only
  rw [if_pos rfl]
theorem FK_0 {f : Nat → Nat} : FK (sg0 f) 0 0 0 := by
  have eo : ∀ a b c, ¬ a = 5 → ¬ (a = 0 ∧ c = 1) → (sg0 f).1 a b c = 0 := fun a b c h1 h2 => (if_neg h1).trans (if_neg h2)
  have z : ∀ j, 9 ≤ j → w0 j = nI 0 := fun j hj => (w0_z hj).trans nI_0.symm
  refine ⟨⟨⟨0, eo 3 0 0 (by decide) (by omega), by decide⟩, ⟨0, eo 3 0 1 (by decide) (by omega), by decide⟩⟩, ?_⟩
  rw [sg0_5]
  refine ⟨Wb_0, ⟨rfl, by decide⟩, ⟨rfl, by decide⟩, ⟨0, rfl, by decide⟩, fun _ => 0, fun _ => 0, fun _ => 0, fun _ => 0, 0, 100, 0, 20, 0, fun i hi => ⟨z _ (by unfold hx; omega), z _ (by unfold hx; omega), z _ (by unfold hx; omega), Nat.le_refl _, fun _ => ⟨rfl, rfl⟩⟩, fun i hi => ⟨z _ (by unfold kx; omega), fun _ => rfl⟩, ⟨rfl, rfl, rfl, rfl, by decide⟩, rfl, rfl, by decide, by decide⟩
theorem Lw_0 {f : Nat → Nat} : Lw ((sg0 f).1 5 0) := by
  rw [sg0_5]
  exact ⟨⟨rfl, rfl, rfl⟩, fun j hj => w0_z (by omega)⟩
