/-! constructors: the work, the text, the StringBuilder -/
theorem kw_X6_9 : Cond.classLink RX6 9 RX5 ∈ WT := (wt_mem 40 (by decide +kernel) (by decide +kernel))
theorem kw_X6_18 : Cond.classLink RX6 18 RX4 ∈ WT := (wt_mem 170 (by decide +kernel) (by decide +kernel))
theorem ac_char : Cond.arrayClass .char ∈ WT := (wt_mem 245 (by decide +kernel) (by decide +kernel))
theorem oi_J5 : Cond.methodLink RJ5 3 Lib.objectInit ∈ WT := (wt_mem 254 (by decide +kernel) (by decide +kernel))
theorem ci_J4_1 : CI RJ4 1 yJ5_init_d00df cJ5_init_d00df 2 1 := ⟨wt_in (wt_mem 253 (by decide +kernel) (by decide +kernel)), (wt_mem 251 (by decide +kernel) (by decide +kernel)), (wt_mem 13 (by decide +kernel) (by decide +kernel)), (wt_mem 252 (by decide +kernel) (by decide +kernel)), ⟨by decide +kernel, by decide +kernel, by decide +kernel⟩, by decide⟩
def wkF (f : Nat → Nat) : List Value := [.ref (f 0), .ref (f 16)]
def re0 : EC := .inl (4, [.int 0, .int 0, .int 0])
def wkC (f : Nat → Nat) (C : Nat → EC) : Prop := C 0 = .inl (5, stF (fun m => f (1 + m))) ∧ stC (fun m => f (1 + m)) (fun m => C (1 + m)) 8 4 ∧ C 16 = re0
def wkP (B : Nat) (G : GH) (b : Nat) (r : Option Value) (G' : GH) : Prop := ∃ (f : Nat → Nat) (C : Nat → EC), r = none ∧ FOK B G 17 f b ∧ G' = FH G 17 f C b (.inl (6, wkF f)) ∧ wkC f C
set_option maxHeartbeats 4000000 in
set_option maxRecDepth 100000 in
theorem t_X6_init {D : va_G} {s0 : State} {l : Launch} {G : GH} {b : Nat} (hb : G b = some (.inl (6, [.null, .null]))) : Tri D s0 l yX6_init cX6_init 1 (none) 2 17 120 [.ref b] G (wkP s0.heap.size G b) noX := by
  refine Tri.ofV (own := RX6) (mn := "<init>") (by decide +kernel) rfl rfl (Nat.le_of_ble_eq_true rfl) ?_
  refine V_aload_n (i := 0) dX6_init_0 rfl rfl ?_
  refine V_objInit dX6_init_1 oi_X6 oi_in oi_code (Nat.le_of_ble_eq_true rfl) (Nat.le_of_ble_eq_true rfl) ?_
  refine V.eqG (FH_0 (f := fun _ => 0) (C := fun _ => wA4) hb) ?_
  have h0 : FOK s0.heap.size G 0 (fun _ => 0) b := FOK_0
  refine V_aload_n (i := 0) dX6_init_4 rfl rfl ?_
  refine V_new (ci := 5) (C := RX5) (T := TX5) (N := 13) (ty := tyX5) (fs := stZ) dX6_init_5 rfl uw_X5 tyX5_ok kw_X6_9 ib_X5 iz_X5 (by decide) (Nat.le_of_ble_eq_true rfl) (Nat.le_of_ble_eq_true rfl) (fun q hq hn => ?_)
  have h1 := FOK_new h0 hn hq
  refine V.eqG (FH_new h0 hn hq) ?_
  have a2 : FH G (0 + 1) (uf (fun _ => 0) 0 q) (uc (fun _ => wA4) 0 (.inl (5, stZ))) b (.inl (6, [.null, .null])) q = some (.inl (5, stZ)) := FH_f (f := uf (fun _ => 0) 0 q) (C := uc (fun _ => wA4) 0 (.inl (5, stZ))) h1 (i := 0) (by decide)
  refine V_dup dX6_init_8 rfl ?_
  refine V_callI (d := 2) ci_X6_11 rfl dX6_init_9 (t_X5_init a2) rfl rfl (Nat.le_of_ble_eq_true rfl) ⟨Nat.le_refl _, Nat.le_refl _⟩ (by decide) ⟨(Nat.le_of_ble_eq_true rfl), (Nat.le_of_ble_eq_true rfl)⟩ ?_ (fun _ _ h => h.elim)
  rintro r G' ⟨g, E, rfl, hg, rfl, hE⟩
  have hg2 : FOK s0.heap.size (FH G (0 + 1) (uf (fun _ => 0) 0 q) (uc (fun _ => wA4) 0 (.inl (5, stZ))) b (.inl (6, [.null, .null]))) 15 g (uf (fun _ => 0) 0 q 0) := hg
  have h2 := FOK_app h1 hg2
  have ea := FH_app (D := E) (c := .inl (5, stF g)) h1 (show 0 < 0 + 1 by decide) hg2
  refine V.eqG ea ?_
  generalize hF : apF (0 + 1) (uf (fun _ => 0) 0 q) g = F at h2 ea ⊢
  generalize hK : apC (0 + 1) 0 (Sum.inl (5, stF g)) (uc (fun _ => wA4) 0 (.inl (5, stZ))) E = K at ea ⊢
  have f0 : F 0 = q := by rw [← hF]; rfl
  have f1 : ∀ m, F (1 + m) = g m := fun m => by rw [← hF, apF, if_neg (by omega)]; congr 1; omega
  have k0 : K 0 = .inl (5, stF g) := by rw [← hK]; rfl
  have k1 : ∀ m, K (1 + m) = E m := fun m => by rw [← hK, apC, if_neg (by omega)]; congr 1; omega
  refine V_putf (ty := .object RX5) fl_X6_12 dX6_init_12 FH_b (fun q9 hq9 => by cases hq9; first | exact Or.inl rfl | exact Or.inr ⟨rfl, rfl, rfl⟩) (fun q9 hq9 => by cases hq9; decide +kernel) rfl rfl (Nat.le_of_ble_eq_true rfl) ?_
  refine V.eqG FH_sb ?_
  refine V_aload_n (i := 0) dX6_init_15 rfl rfl ?_
  refine V_new (ci := 4) (C := RX4) (T := TX4) (N := 3) (ty := tyX4) (fs := [.int 0, .int 0, .int 0]) dX6_init_16 rfl uw_X4 tyX4_ok kw_X6_18 ib_X4 iz_X4 (by decide) (Nat.le_of_ble_eq_true rfl) (Nat.le_of_ble_eq_true rfl) (fun q2 hq2 hn2 => ?_)
  have h3 := FOK_new h2 hn2 hq2
  refine V.eqG (FH_new h2 hn2 hq2) ?_
  refine V_dup dX6_init_19 rfl ?_
  refine V_callIN (d := 2) cn_X6_20 im_X4 rfl dX6_init_20 t_X4_init rfl rfl (Nat.le_of_ble_eq_true rfl) ⟨Nat.le_refl _, Nat.le_refl _⟩ (by decide) ⟨(Nat.le_of_ble_eq_true rfl), (Nat.le_of_ble_eq_true rfl)⟩ ?_ (fun _ _ h => h.elim)
  rintro r G' ⟨rfl, rfl⟩
  refine V_putf (ty := .object RX4) fl_X6_21 dX6_init_23 FH_b (fun q9 hq9 => by cases hq9; first | exact Or.inl rfl | exact Or.inr ⟨rfl, rfl, rfl⟩) (fun q9 hq9 => by cases hq9; decide +kernel) rfl rfl (Nat.le_of_ble_eq_true rfl) ?_
  refine V.eqG FH_sb ?_
  refine V_vret dX6_init_26 rfl (Nat.le_of_ble_eq_true rfl) (Nat.le_of_ble_eq_true rfl) ?_
  have e : ∀ m, m < 16 → uf F (0 + 1 + 15) q2 m = F m := fun m hm => if_neg (by omega)
  have e2 : ∀ m, m < 16 → uc K (0 + 1 + 15) re0 m = K m := fun m hm => if_neg (by omega)
  refine ⟨uf F (0 + 1 + 15) q2, uc K (0 + 1 + 15) re0, rfl, h3, ?_, ?_, stC_c (fun m hm => ?_) (fun m hm => ?_) hE, rfl⟩
  · refine congrArg (fun z => FH G 17 (uf F (0 + 1 + 15) q2) (uc K (0 + 1 + 15) re0) b (.inl (6, z))) ?_
    unfold wkF
    rw [e 0 (by decide), f0]
    rfl
  · rw [e2 0 (by decide), k0]
    exact congrArg (fun z => (Sum.inl (5, z) : EC)) (stF_c (fun m hm => by rw [e _ (by omega), f1]))
  · rw [e _ (by omega), f1]
  · rw [e2 _ (by omega), k1]

def txF (f : Nat → Nat) : List Value := [.ref (f 0), .ref (f 1), .ref (f 2), .ref (f 3), .int 0, .int 0, .int 0, .int 0]
def ch60 : EC := .inr (.char, 60, fun _ => .int 0)
def in30 : EC := .inr (.int, 30, fun _ => .int 0)
def txP (B : Nat) (G : GH) (b : Nat) (r : Option Value) (G' : GH) : Prop := ∃ (f : Nat → Nat) (C : Nat → EC), r = none ∧ FOK B G 4 f b ∧ G' = FH G 4 f C b (.inl (1, txF f)) ∧ C 0 = ch60 ∧ C 1 = in30 ∧ C 2 = in30 ∧ C 3 = in30
set_option maxHeartbeats 4000000 in
set_option maxRecDepth 100000 in
theorem t_X1_init {D : va_G} {s0 : State} {l : Launch} {G : GH} {b : Nat} (hb : G b = some (.inl (1, [.null, .null, .null, .null, .int 0, .int 0, .int 0, .int 0]))) : Tri D s0 l yX1_init cX1_init 1 (none) 0 4 150 [.ref b] G (txP s0.heap.size G b) noX := by
  refine Tri.ofV (own := RX1) (mn := "<init>") (by decide +kernel) rfl rfl (Nat.le_of_ble_eq_true rfl) ?_
  refine V_aload_n (i := 0) dX1_init_0 rfl rfl ?_
  refine V_objInit dX1_init_1 oi_X1 oi_in oi_code (Nat.le_of_ble_eq_true rfl) (Nat.le_of_ble_eq_true rfl) ?_
  refine V.eqG (FH_0 (f := fun _ => 0) (C := fun _ => wA4) hb) ?_
  have h0 : FOK s0.heap.size G 0 (fun _ => 0) b := FOK_0
  refine V_aload_n (i := 0) dX1_init_4 rfl rfl ?_
  refine V_bipush (v := 60) dX1_init_5 (by decide) ?_
  refine V_newa (ty := .char) (N := 60) dX1_init_7 ac_char rfl (by decide) (by decide) (by decide) (Nat.le_of_ble_eq_true rfl) (Nat.le_of_ble_eq_true rfl) (fun C z => by cases z) (fun q0 hq0 hn0 => ?_)
  have h1 := FOK_new h0 hn0 hq0
  refine V.eqG (FH_new h0 hn0 hq0) ?_
  refine V_putf (ty := .array .char) fl_X1_9 dX1_init_9 FH_b (fun q9 hq9 => by cases hq9; first | exact Or.inl rfl | exact Or.inr ⟨rfl, rfl, rfl⟩) (fun q9 hq9 => by cases hq9; decide +kernel) rfl rfl (Nat.le_of_ble_eq_true rfl) ?_
  refine V.eqG FH_sb ?_
  refine V_aload_n (i := 0) dX1_init_12 rfl rfl ?_
  refine V_bipush (v := 30) dX1_init_13 (by decide) ?_
  refine V_newa (ty := .int) (N := 30) dX1_init_15 ac_int rfl (by decide) (by decide) (by decide) (Nat.le_of_ble_eq_true rfl) (Nat.le_of_ble_eq_true rfl) (fun C z => by cases z) (fun q1 hq1 hn1 => ?_)
  have h2 := FOK_new h1 hn1 hq1
  refine V.eqG (FH_new h1 hn1 hq1) ?_
  refine V_putf (ty := .array .int) fl_X1_15 dX1_init_17 FH_b (fun q9 hq9 => by cases hq9; first | exact Or.inl rfl | exact Or.inr ⟨rfl, rfl, rfl⟩) (fun q9 hq9 => by cases hq9; decide +kernel) rfl rfl (Nat.le_of_ble_eq_true rfl) ?_
  refine V.eqG FH_sb ?_
  refine V_aload_n (i := 0) dX1_init_20 rfl rfl ?_
  refine V_bipush (v := 30) dX1_init_21 (by decide) ?_
  refine V_newa (ty := .int) (N := 30) dX1_init_23 ac_int rfl (by decide) (by decide) (by decide) (Nat.le_of_ble_eq_true rfl) (Nat.le_of_ble_eq_true rfl) (fun C z => by cases z) (fun q2 hq2 hn2 => ?_)
  have h3 := FOK_new h2 hn2 hq2
  refine V.eqG (FH_new h2 hn2 hq2) ?_
  refine V_putf (ty := .array .int) fl_X1_19 dX1_init_25 FH_b (fun q9 hq9 => by cases hq9; first | exact Or.inl rfl | exact Or.inr ⟨rfl, rfl, rfl⟩) (fun q9 hq9 => by cases hq9; decide +kernel) rfl rfl (Nat.le_of_ble_eq_true rfl) ?_
  refine V.eqG FH_sb ?_
  refine V_aload_n (i := 0) dX1_init_28 rfl rfl ?_
  refine V_bipush (v := 30) dX1_init_29 (by decide) ?_
  refine V_newa (ty := .int) (N := 30) dX1_init_31 ac_int rfl (by decide) (by decide) (by decide) (Nat.le_of_ble_eq_true rfl) (Nat.le_of_ble_eq_true rfl) (fun C z => by cases z) (fun q3 hq3 hn3 => ?_)
  have h4 := FOK_new h3 hn3 hq3
  refine V.eqG (FH_new h3 hn3 hq3) ?_
  refine V_putf (ty := .array .int) fl_X1_22 dX1_init_33 FH_b (fun q9 hq9 => by cases hq9; first | exact Or.inl rfl | exact Or.inr ⟨rfl, rfl, rfl⟩) (fun q9 hq9 => by cases hq9; decide +kernel) rfl rfl (Nat.le_of_ble_eq_true rfl) ?_
  refine V.eqG FH_sb ?_
  refine V_vret dX1_init_36 rfl (Nat.le_of_ble_eq_true rfl) (Nat.le_of_ble_eq_true rfl) ?_
  exact ⟨_, _, rfl, h4, rfl, rfl, rfl, rfl, rfl⟩

def sbP (B : Nat) (G : GH) (b : Nat) (r : Option Value) (G' : GH) : Prop := ∃ (f : Nat → Nat) (C : Nat → EC), r = none ∧ FOK B G 1 f b ∧ G' = FH G 1 f C b (.inl (8, [.ref (f 0), .int 0, .int 0, .int 0])) ∧ C 0 = .inr (.byte, 16, fun _ => .int 0)
set_option maxHeartbeats 4000000 in
set_option maxRecDepth 100000 in
theorem t_J5_init_d00df {D : va_G} {s0 : State} {l : Launch} {G : GH} {b : Nat} (hb : G b = some (.inl (8, [.null, .int 0, .int 0, .int 0]))) : Tri D s0 l yJ5_init_d00df cJ5_init_d00df 2 (none) 0 1 16 [.ref b, .int 16] G (sbP s0.heap.size G b) noX := by
  refine tr_fr (fun hs => ?_)
  refine Tri.ofV (own := RJ5) (mn := "<init>") (by decide +kernel) rfl rfl (Nat.le_of_ble_eq_true rfl) ?_
  refine V_aload_n (i := 0) dJ5_init_d00df_0 rfl rfl ?_
  refine V_objInit dJ5_init_d00df_1 oi_J5 oi_in oi_code (Nat.le_of_ble_eq_true rfl) (Nat.le_of_ble_eq_true rfl) ?_
  refine V.eqG (FH_0 (f := fun _ => 0) (C := fun _ => wA4) hb) ?_
  have h0 : FOK s0.heap.size G 0 (fun _ => 0) b := FOK_0
  refine V_gst hs.cs fb_J5_18 dJ5_init_d00df_4 ?_
  refine V_if_eq (tgt := 25) dJ5_init_d00df_7 (by decide) (fun h => absurd h (by decide)) (fun _ => ?_)
  refine V_aload_n (i := 0) dJ5_init_d00df_10 rfl rfl ?_
  refine V_iload_n (i := 1) dJ5_init_d00df_11 rfl rfl ?_
  refine V_newa (ty := .byte) (N := 16) dJ5_init_d00df_12 ab_cl rfl (by decide) (by decide) (by decide) (Nat.le_of_ble_eq_true rfl) (Nat.le_of_ble_eq_true rfl) (fun C z => by cases z) (fun q0 hq0 hn0 => ?_)
  have h1 := FOK_new h0 hn0 hq0
  refine V.eqG (FH_new h0 hn0 hq0) ?_
  refine V_putf (ty := .array .byte) fl_J5_15 dJ5_init_d00df_14 FH_b (fun q9 hq9 => by cases hq9; first | exact Or.inl rfl | exact Or.inr ⟨rfl, rfl, rfl⟩) (fun q9 hq9 => by cases hq9; decide +kernel) rfl rfl (Nat.le_of_ble_eq_true rfl) ?_
  refine V.eqG FH_sb ?_
  refine V_aload_n (i := 0) dJ5_init_d00df_17 rfl rfl ?_
  refine V_iconst (v := 0) dJ5_init_d00df_18 (by decide) ?_
  refine V_putf (ty := .byte) fl_J5_22 dJ5_init_d00df_19 FH_b (fun q9 hq9 => by cases hq9; first | exact Or.inl rfl | exact Or.inr ⟨rfl, rfl, rfl⟩) (fun q9 hq9 => by cases hq9; decide +kernel) rfl rfl (Nat.le_of_ble_eq_true rfl) ?_
  refine V.eqG FH_sb ?_
  refine V_goto (tgt := 38) dJ5_init_d00df_22 (by decide) ?_
  refine V_vret dJ5_init_d00df_38 rfl (Nat.le_of_ble_eq_true rfl) (Nat.le_of_ble_eq_true rfl) ?_
  exact ⟨_, _, rfl, h1, rfl, rfl⟩

set_option maxHeartbeats 4000000 in
set_option maxRecDepth 100000 in
theorem t_J4_init_da8c8 {D : va_G} {s0 : State} {l : Launch} {G : GH} {b : Nat} (hb : G b = some (.inl (8, [.null, .int 0, .int 0, .int 0]))) : Tri D s0 l yJ4_init_da8c8 cJ4_init_da8c8 1 (none) 1 1 16 [.ref b] G (sbP s0.heap.size G b) noX := by
  refine Tri.ofV (own := RJ4) (mn := "<init>") (by decide +kernel) rfl rfl (Nat.le_of_ble_eq_true rfl) ?_
  refine V_aload_n (i := 0) dJ4_init_da8c8_0 rfl rfl ?_
  refine V_bipush (v := 16) dJ4_init_da8c8_1 (by decide) ?_
  refine V_callI (d := 1) ci_J4_1 rfl dJ4_init_da8c8_3 (t_J5_init_d00df hb) rfl rfl (Nat.le_of_ble_eq_true rfl) ⟨Nat.le_refl _, Nat.le_refl _⟩ (by decide) ⟨(Nat.le_of_ble_eq_true rfl), (Nat.le_of_ble_eq_true rfl)⟩ ?_ (fun _ _ h => h.elim)
  rintro r G' ⟨f, C, rfl, k1, k2, k3⟩
  refine V_vret dJ4_init_da8c8_6 rfl (Nat.le_of_ble_eq_true rfl) (Nat.le_of_ble_eq_true rfl) ?_
  exact ⟨f, C, rfl, k1, k2, k3⟩

