/-! constructors: the reference -/
def moZ : List Value := [.null, .null, .null, .null, .int 0, .int 0, .int 0, .int 0, .int 0, .int 0, .null, .int 0, .int 0, .null, .int 0, .int 0, .int 0, .int 0, .int 0, .int 0, .int 0, .null, .null]
def moF (f : Nat → Nat) : List Value := [.ref (f 0), .ref (f 1), .ref (f 2), .ref (f 3), .int 0, .int 0, .int 0, .int 0, .int 0, .int 0, .ref (f 4), .int 0, .int (-1), .ref (f 5), .int 0, .int 0, .int 0, .int 0, .int 0, .int 0, .int 0, .ref (f 6), .ref (f 7)]
def inA (n : Nat) : EC := .inr (.int, n, fun _ => .int 0)
/-- a new street's numbers -/
def w0 (j : Nat) : Int32 := if j = 5 then 100 else if j = 6 then 20 else if j = 8 then 3 else 0
def moC (C : Nat → EC) : Prop := C 0 = .inr (.int, 102, fun j => .int (w0 j)) ∧ C 1 = inA 102 ∧ C 2 = inA 102 ∧ C 3 = inA 816 ∧ C 4 = inA 60 ∧ C 5 = inA 40 ∧ C 6 = inA 32 ∧ C 7 = inA 64
def moP (B : Nat) (G : GH) (b : Nat) (r : Option Value) (G' : GH) : Prop := ∃ (f : Nat → Nat) (C : Nat → EC), r = none ∧ FOK B G 8 f b ∧ G' = FH G 8 f C b (.inl (8, moF f)) ∧ moC C
theorem w0_u : updV (updV (updV (fun _ => Value.int 0) (Int32.toNatClampNeg 5) (.int 100)) (Int32.toNatClampNeg 6) (.int 20)) (Int32.toNatClampNeg 8) (.int 3) = fun j => Value.int (w0 j) := by
  funext j
  show (if j = 8 then Value.int 3 else if j = 6 then Value.int 20 else if j = 5 then Value.int 100 else Value.int 0) = _
  unfold w0
  by_cases e5 : j = 5
  · subst e5
    rfl
  · by_cases e6 : j = 6
    · subst e6
      rfl
    · by_cases e8 : j = 8
      · subst e8
        rfl
      · rw [if_neg e8, if_neg e6, if_neg e5, if_neg e5, if_neg e6, if_neg e8]

set_option maxHeartbeats 4000000 in
set_option maxRecDepth 100000 in
theorem t_X8_init {D : va_G} {s0 : State} {l : Launch} {G : GH} {b : Nat} (hb : G b = some (.inl (8, moZ))) : Tri D s0 l yX8_init cX8_init 1 (none) 0 8 1318 [.ref b] G (moP s0.heap.size G b) noX := by
  refine Tri.ofV (own := RX8) (mn := "<init>") (by decide +kernel) rfl rfl (Nat.le_of_ble_eq_true rfl) ?_
  refine V_aload_n (i := 0) dX8_init_0 rfl rfl ?_
  refine V_objInit dX8_init_1 oi_X8 oi_in oi_code (Nat.le_of_ble_eq_true rfl) (Nat.le_of_ble_eq_true rfl) ?_
  refine V.eqG (FH_0 (f := fun _ => 0) (C := fun _ => wA4) hb) ?_
  have h0 : FOK s0.heap.size G 0 (fun _ => 0) b := FOK_0
  refine V_aload_n (i := 0) dX8_init_4 rfl rfl ?_
  refine V_bipush (v := 102) dX8_init_5 (by decide) ?_
  refine V_newa (ty := .int) (N := 102) dX8_init_7 ac_int rfl (by decide) (by decide) (by decide) (Nat.le_of_ble_eq_true rfl) (Nat.le_of_ble_eq_true rfl) (fun C z => by cases z) (fun q0 hq0 hn0 => ?_)
  have h1 := FOK_new h0 hn0 hq0
  refine V.eqG (FH_new h0 hn0 hq0) ?_
  refine V_putf (ty := .array .int) fl_X8_9 dX8_init_9 FH_b (fun q9 hq9 => by cases hq9; first | exact Or.inl rfl | exact Or.inr ⟨rfl, rfl, rfl⟩) (fun q9 hq9 => by cases hq9; decide +kernel) rfl rfl (Nat.le_of_ble_eq_true rfl) ?_
  refine V.eqG FH_sb ?_
  refine V_aload_n (i := 0) dX8_init_12 rfl rfl ?_
  refine V_bipush (v := 102) dX8_init_13 (by decide) ?_
  refine V_newa (ty := .int) (N := 102) dX8_init_15 ac_int rfl (by decide) (by decide) (by decide) (Nat.le_of_ble_eq_true rfl) (Nat.le_of_ble_eq_true rfl) (fun C z => by cases z) (fun q1 hq1 hn1 => ?_)
  have h2 := FOK_new h1 hn1 hq1
  refine V.eqG (FH_new h1 hn1 hq1) ?_
  refine V_putf (ty := .array .int) fl_X8_13 dX8_init_17 FH_b (fun q9 hq9 => by cases hq9; first | exact Or.inl rfl | exact Or.inr ⟨rfl, rfl, rfl⟩) (fun q9 hq9 => by cases hq9; decide +kernel) rfl rfl (Nat.le_of_ble_eq_true rfl) ?_
  refine V.eqG FH_sb ?_
  refine V_aload_n (i := 0) dX8_init_20 rfl rfl ?_
  refine V_bipush (v := 102) dX8_init_21 (by decide) ?_
  refine V_newa (ty := .int) (N := 102) dX8_init_23 ac_int rfl (by decide) (by decide) (by decide) (Nat.le_of_ble_eq_true rfl) (Nat.le_of_ble_eq_true rfl) (fun C z => by cases z) (fun q2 hq2 hn2 => ?_)
  have h3 := FOK_new h2 hn2 hq2
  refine V.eqG (FH_new h2 hn2 hq2) ?_
  refine V_putf (ty := .array .int) fl_X8_16 dX8_init_25 FH_b (fun q9 hq9 => by cases hq9; first | exact Or.inl rfl | exact Or.inr ⟨rfl, rfl, rfl⟩) (fun q9 hq9 => by cases hq9; decide +kernel) rfl rfl (Nat.le_of_ble_eq_true rfl) ?_
  refine V.eqG FH_sb ?_
  refine V_aload_n (i := 0) dX8_init_28 rfl rfl ?_
  refine V_sipush (v := 816) dX8_init_29 (by decide) ?_
  refine V_newa (ty := .int) (N := 816) dX8_init_32 ac_int rfl (by decide) (by decide) (by decide) (Nat.le_of_ble_eq_true rfl) (Nat.le_of_ble_eq_true rfl) (fun C z => by cases z) (fun q3 hq3 hn3 => ?_)
  have h4 := FOK_new h3 hn3 hq3
  refine V.eqG (FH_new h3 hn3 hq3) ?_
  refine V_putf (ty := .array .int) fl_X8_19 dX8_init_34 FH_b (fun q9 hq9 => by cases hq9; first | exact Or.inl rfl | exact Or.inr ⟨rfl, rfl, rfl⟩) (fun q9 hq9 => by cases hq9; decide +kernel) rfl rfl (Nat.le_of_ble_eq_true rfl) ?_
  refine V.eqG FH_sb ?_
  refine V_aload_n (i := 0) dX8_init_37 rfl rfl ?_
  refine V_bipush (v := 60) dX8_init_38 (by decide) ?_
  refine V_newa (ty := .int) (N := 60) dX8_init_40 ac_int rfl (by decide) (by decide) (by decide) (Nat.le_of_ble_eq_true rfl) (Nat.le_of_ble_eq_true rfl) (fun C z => by cases z) (fun q4 hq4 hn4 => ?_)
  have h5 := FOK_new h4 hn4 hq4
  refine V.eqG (FH_new h4 hn4 hq4) ?_
  refine V_putf (ty := .array .int) fl_X8_22 dX8_init_42 FH_b (fun q9 hq9 => by cases hq9; first | exact Or.inl rfl | exact Or.inr ⟨rfl, rfl, rfl⟩) (fun q9 hq9 => by cases hq9; decide +kernel) rfl rfl (Nat.le_of_ble_eq_true rfl) ?_
  refine V.eqG FH_sb ?_
  refine V_aload_n (i := 0) dX8_init_45 rfl rfl ?_
  refine V_iconst (v := (-1)) dX8_init_46 (by decide) ?_
  refine V_putf (ty := .int) fl_X8_25 dX8_init_47 FH_b (fun q9 hq9 => by cases hq9; first | exact Or.inl rfl | exact Or.inr ⟨rfl, rfl, rfl⟩) (fun q9 hq9 => by cases hq9; decide +kernel) rfl rfl (Nat.le_of_ble_eq_true rfl) ?_
  refine V.eqG FH_sb ?_
  refine V_aload_n (i := 0) dX8_init_50 rfl rfl ?_
  refine V_bipush (v := 40) dX8_init_51 (by decide) ?_
  refine V_newa (ty := .int) (N := 40) dX8_init_53 ac_int rfl (by decide) (by decide) (by decide) (Nat.le_of_ble_eq_true rfl) (Nat.le_of_ble_eq_true rfl) (fun C z => by cases z) (fun q5 hq5 hn5 => ?_)
  have h6 := FOK_new h5 hn5 hq5
  refine V.eqG (FH_new h5 hn5 hq5) ?_
  refine V_putf (ty := .array .int) fl_X8_29 dX8_init_55 FH_b (fun q9 hq9 => by cases hq9; first | exact Or.inl rfl | exact Or.inr ⟨rfl, rfl, rfl⟩) (fun q9 hq9 => by cases hq9; decide +kernel) rfl rfl (Nat.le_of_ble_eq_true rfl) ?_
  refine V.eqG FH_sb ?_
  refine V_aload_n (i := 0) dX8_init_58 rfl rfl ?_
  refine V_bipush (v := 32) dX8_init_59 (by decide) ?_
  refine V_newa (ty := .int) (N := 32) dX8_init_61 ac_int rfl (by decide) (by decide) (by decide) (Nat.le_of_ble_eq_true rfl) (Nat.le_of_ble_eq_true rfl) (fun C z => by cases z) (fun q6 hq6 hn6 => ?_)
  have h7 := FOK_new h6 hn6 hq6
  refine V.eqG (FH_new h6 hn6 hq6) ?_
  refine V_putf (ty := .array .int) fl_X8_32 dX8_init_63 FH_b (fun q9 hq9 => by cases hq9; first | exact Or.inl rfl | exact Or.inr ⟨rfl, rfl, rfl⟩) (fun q9 hq9 => by cases hq9; decide +kernel) rfl rfl (Nat.le_of_ble_eq_true rfl) ?_
  refine V.eqG FH_sb ?_
  refine V_aload_n (i := 0) dX8_init_66 rfl rfl ?_
  refine V_bipush (v := 64) dX8_init_67 (by decide) ?_
  refine V_newa (ty := .int) (N := 64) dX8_init_69 ac_int rfl (by decide) (by decide) (by decide) (Nat.le_of_ble_eq_true rfl) (Nat.le_of_ble_eq_true rfl) (fun C z => by cases z) (fun q7 hq7 hn7 => ?_)
  have h8 := FOK_new h7 hn7 hq7
  refine V.eqG (FH_new h7 hn7 hq7) ?_
  refine V_putf (ty := .array .int) fl_X8_35 dX8_init_71 FH_b (fun q9 hq9 => by cases hq9; first | exact Or.inl rfl | exact Or.inr ⟨rfl, rfl, rfl⟩) (fun q9 hq9 => by cases hq9; decide +kernel) rfl rfl (Nat.le_of_ble_eq_true rfl) ?_
  refine V.eqG FH_sb ?_
  refine V_aload_n (i := 0) dX8_init_74 rfl rfl ?_
  refine V_getf fl_X8_9 dX8_init_75 FH_b rfl ?_
  refine V_iconst (v := 5) dX8_init_78 (by decide) ?_
  refine V_bipush (v := 100) dX8_init_79 (by decide) ?_
  refine V_iast dX8_init_81 (FH_f h8 (i := 0) (by decide)) (vp_in_nI (n := 5) (N := 102) (by decide) (by decide)) ?_
  refine V.eqG (FH_st h8 (i := 0) (by decide)) ?_
  refine V_aload_n (i := 0) dX8_init_82 rfl rfl ?_
  refine V_getf fl_X8_9 dX8_init_83 FH_b rfl ?_
  refine V_bipush (v := 6) dX8_init_86 (by decide) ?_
  refine V_bipush (v := 20) dX8_init_88 (by decide) ?_
  refine V_iast dX8_init_90 (FH_f h8 (i := 0) (by decide)) (vp_in_nI (n := 6) (N := 102) (by decide) (by decide)) ?_
  refine V.eqG (FH_st h8 (i := 0) (by decide)) ?_
  refine V_aload_n (i := 0) dX8_init_91 rfl rfl ?_
  refine V_getf fl_X8_9 dX8_init_92 FH_b rfl ?_
  refine V_bipush (v := 8) dX8_init_95 (by decide) ?_
  refine V_iconst (v := 3) dX8_init_97 (by decide) ?_
  refine V_iast dX8_init_98 (FH_f h8 (i := 0) (by decide)) (vp_in_nI (n := 8) (N := 102) (by decide) (by decide)) ?_
  refine V.eqG (FH_st h8 (i := 0) (by decide)) ?_
  refine V_vret dX8_init_99 rfl (Nat.le_of_ble_eq_true rfl) (Nat.le_of_ble_eq_true rfl) ?_
  exact ⟨_, _, rfl, h8, rfl, congrArg (fun z => (Sum.inr (FieldType.int, 102, z) : EC)) w0_u, rfl, rfl, rfl, rfl, rfl, rfl, rfl⟩

