/-! the class: houses, carriers, streets -/
theorem V.fin {D : va_G} {s0 : State} {own mn : String} {cc : ByteArray} {nL : Nat} {ret : Option FieldType} {hh : List (Nat × Nat × Nat × Nat)} {l : Launch} {R : Room} {Z : ZT} {pc : Nat} {lo lo' : List (Nat × Value)} {st : List Value} {G G' : GH} {cells slots : Nat} (ks : List Nat) (h : lv_pick lo ks = lo') (hG : G = G') (k : V D s0 own mn cc nL ret hh l R Z pc lo' st G' cells slots) : V D s0 own mn cc nL ret hh l R Z pc lo st G cells slots := by
  subst hG
  subst h
  refine V.lsub (fun q hq => ?_) k
  obtain ⟨i, -, hi⟩ := List.mem_filterMap.mp hq
  exact List.mem_of_getElem? hi
theorem inc1 (i : Nat) : nI i + Int32.ofInt 1 = nI (i + 1) := nI_1 i
def up (w : Nat → Int32) (i : Nat) (x : Int32) : Nat → Int32 := fun j => if j = i then x else w j
theorem up_at {w : Nat → Int32} {i : Nat} {x : Int32} : up w i x i = x := if_pos rfl
theorem up_ne {w : Nat → Int32} {i j : Nat} {x : Int32} (h : j ≠ i) : up w i x j = w j := if_neg h
/-- a whole vector becomes another -/
def row (σ : Sg) (a b : Nat) (u : Nat → Int32) : Sg := (fun a' b' c' => if a' = a ∧ b' = b then u c' else σ.1 a' b' c', σ.2)
theorem row_at {σ : Sg} {a b : Nat} {u : Nat → Int32} : (row σ a b u).1 a b = u := by
  funext c
  exact if_pos ⟨rfl, rfl⟩
theorem row_ne {σ : Sg} {a b a' b' : Nat} {u : Nat → Int32} (h : ¬ (a' = a ∧ b' = b)) : (row σ a b u).1 a' b' = σ.1 a' b' := by
  funext c
  exact if_neg h
theorem row_2 {σ : Sg} {a b : Nat} {u : Nat → Int32} : (row σ a b u).2 = σ.2 := rfl
theorem row_row {σ : Sg} {a b : Nat} {u u' : Nat → Int32} : row (row σ a b u) a b u' = row σ a b u' := by
  unfold row
  refine Prod.ext (funext fun a' => funext fun b' => funext fun c' => ?_) rfl
  by_cases h : a' = a ∧ b' = b
  · simp only [if_pos h]
  · simp only [if_neg h]
theorem row_self {σ : Sg} {a b : Nat} : row σ a b (σ.1 a b) = σ := by
  unfold row
  refine Prod.ext (funext fun a' => funext fun b' => funext fun c' => ?_) rfl
  by_cases h : a' = a ∧ b' = b
  · dsimp only
    rw [if_pos h, h.1, h.2]
  · simp only [if_neg h]
theorem row_comm {σ : Sg} {a b a' b' : Nat} {u u' : Nat → Int32} (h : ¬ (a = a' ∧ b = b')) : row (row σ a b u) a' b' u' = row (row σ a' b' u') a b u := by
  unfold row
  refine Prod.ext (funext fun x => funext fun y => funext fun z => ?_) rfl
  by_cases h1 : x = a ∧ y = b
  · by_cases h2 : x = a' ∧ y = b'
    · exact absurd ⟨h1.1.symm.trans h2.1, h1.2.symm.trans h2.2⟩ h
    · simp only [if_pos h1, if_neg h2]
  · by_cases h2 : x = a' ∧ y = b'
    · simp only [if_neg h1, if_pos h2]
    · simp only [if_neg h1, if_neg h2]
theorem w3_row (σ : Sg) (a b c : Nat) (x : Int32) : w3 σ a b c x = row σ a b (up (σ.1 a b) c x) := by
  unfold w3 row
  refine Prod.ext (funext fun a' => funext fun b' => funext fun c' => ?_) rfl
  dsimp only
  by_cases h : a' = a ∧ b' = b
  · rw [if_pos h]
    by_cases hc : c' = c
    · rw [if_pos ⟨h.1, h.2, hc⟩, hc, up_at]
    · rw [if_neg (fun q => hc q.2.2), up_ne hc, h.1, h.2]
  · rw [if_neg h, if_neg (fun q => h ⟨q.1, q.2.1⟩)]
/-- street k becomes as street k' at the places P -/
def cp (σ : Sg) (k k' : Nat) (P : Nat → Bool) : Sg := (fun a b c => if a = 5 ∧ b = k ∧ P c = true then σ.1 5 k' c else σ.1 a b c, σ.2)
theorem cp_0 {σ : Sg} {k k' c : Nat} : w3 σ 5 k c (σ.1 5 k' c) = cp σ k k' (fun j => j == c) := by
  unfold w3 cp
  refine Prod.ext (funext fun a' => funext fun b' => funext fun c' => ?_) rfl
  simp only [beq_iff_eq]
  by_cases h : a' = 5 ∧ b' = k ∧ c' = c
  · rw [if_pos h, if_pos h, h.2.2]
  · rw [if_neg h, if_neg h]
theorem cp_w3 {σ : Sg} {k k' c : Nat} {P : Nat → Bool} : w3 (cp σ k k' P) 5 k c (σ.1 5 k' c) = cp σ k k' (fun j => P j || j == c) := by
  unfold w3 cp
  refine Prod.ext (funext fun a' => funext fun b' => funext fun c' => ?_) rfl
  simp only [Bool.or_eq_true, beq_iff_eq]
  by_cases h : a' = 5 ∧ b' = k ∧ c' = c
  · rw [if_pos h, if_pos ⟨h.1, h.2.1, Or.inr h.2.2⟩, h.2.2]
  · rw [if_neg h]
    by_cases h2 : a' = 5 ∧ b' = k ∧ P c' = true
    · rw [if_pos h2, if_pos ⟨h2.1, h2.2.1, Or.inl h2.2.2⟩]
    · rw [if_neg h2, if_neg (fun q => q.2.2.elim (fun z => h2 ⟨q.1, q.2.1, z⟩) (fun z => h ⟨q.1, q.2.1, z⟩))]
theorem cp_src {σ : Sg} {k k' c : Nat} {P : Nat → Bool} (h : k ≠ k') : (cp σ k k' P).1 5 k' c = σ.1 5 k' c := if_neg (fun q => h q.2.1.symm)
theorem cp_cp {σ : Sg} {k k' : Nat} {P Q : Nat → Bool} (h : k ≠ k') : cp (cp σ k k' P) k k' Q = cp σ k k' (fun j => P j || Q j) := by
  refine Prod.ext (funext fun a' => funext fun b' => funext fun c' => ?_) rfl
  show (if a' = 5 ∧ b' = k ∧ Q c' = true then (cp σ k k' P).1 5 k' c' else (cp σ k k' P).1 a' b' c') = if a' = 5 ∧ b' = k ∧ (P c' || Q c') = true then σ.1 5 k' c' else σ.1 a' b' c'
  rw [cp_src h]
  simp only [Bool.or_eq_true]
  by_cases h1 : a' = 5 ∧ b' = k ∧ Q c' = true
  · rw [if_pos h1, if_pos ⟨h1.1, h1.2.1, Or.inr h1.2.2⟩]
  · rw [if_neg h1]
    show (if a' = 5 ∧ b' = k ∧ P c' = true then σ.1 5 k' c' else σ.1 a' b' c') = _
    by_cases h2 : a' = 5 ∧ b' = k ∧ P c' = true
    · rw [if_pos h2, if_pos ⟨h2.1, h2.2.1, Or.inl h2.2.2⟩]
    · rw [if_neg h2, if_neg (fun q => q.2.2.elim (fun z => h2 ⟨q.1, q.2.1, z⟩) (fun z => h1 ⟨q.1, q.2.1, z⟩))]
theorem cp_ext {σ : Sg} {k k' : Nat} {P Q : Nat → Bool} (h : ∀ j, P j = Q j) : cp σ k k' P = cp σ k k' Q := by rw [funext h]
theorem cp_none {σ : Sg} {k k' : Nat} : cp σ k k' (fun _ => false) = σ := by
  refine Prod.ext (funext fun a' => funext fun b' => funext fun c' => ?_) rfl
  exact if_neg (fun q => by cases q.2.2)
theorem w3_k {σ : Sg} {k k' c c' : Nat} {x : Int32} (h : k ≠ k') : (w3 σ 5 k c x).1 5 k' c' = σ.1 5 k' c' := w3_ne (fun q => h q.2.1.symm)
/-! what they answer, on a street's vector -/
def S_lets (w : Nat → Int32) (i : Nat) : Int32 := if w (hx i 1) = 0 ∨ ¬ w (hx i 7) = 0 then 99 else if w (hx i 1) = 2 then 0 else if 0 < 2 - w (hx i 6) then 2 - w (hx i 6) else 0
def S_tired (w : Nat → Int32) (c h : Nat) : Int32 := if 0 < 5 + w (kx c 0) then 1 + 6 * w (hx h 0) / (5 + w (kx c 0)) else 1
def S_can (w : Nat → Int32) (c h : Nat) : Int32 := if 0 < S_tired w c h then (30 - w (kx c 1)) / S_tired w c h else 0
def S_take (w : Nat → Int32) (h : Nat) (b : Int32) : Nat → Int32 :=
  let w1 := up w (hx h 3) (w (hx h 3) - 1)
  let w2 := up w1 (hx h 4) (w1 (hx h 4) + 3)
  let w4 := up w2 (hx h 5) (w2 (hx h 5) + b / 3)
  let w5 := up w4 (hx h 6) (w4 (hx h 6) + 1)
  up w5 (hx h 8) (w5 (hx h 8) + 1)
def S_sack (w : Nat → Int32) (c h : Nat) : Nat → Int32 :=
  let w1 := up w (kx c 1) (w (kx c 1) + S_tired w c h)
  let w2 := up w1 (kx c 2) (if w1 (kx c 2) + 1 < 9 then w1 (kx c 2) + 1 else 9)
  let w4 := up w2 (kx c 3) (w2 (kx c 3) + 1)
  S_take w4 h (w4 (kx c 2))
def S_hday (w : Nat → Int32) (i : Nat) : Nat → Int32 := up (up w (hx i 6) 0) (hx i 7) 0
def S_hweek (w : Nat → Int32) (i : Nat) : Nat → Int32 := up w (hx i 3) (if w (hx i 3) + w (hx i 2) < 20 then w (hx i 3) + w (hx i 2) else 20)
def S_cday (w : Nat → Int32) (i : Nat) : Nat → Int32 :=
  let w1 := up w (kx i 1) (if 0 < w (kx i 1) - 8 then w (kx i 1) - 8 else 0)
  up w1 (kx i 2) 0
def sm (f : Nat → Int32) : Nat → Int32
  | 0 => 0
  | n + 1 => sm f n + f n
def S_worn (w : Nat → Int32) (j : Nat) : Int32 := if 20 ≤ w (10 + j) then 0 else 1
def S_shoes (w : Nat → Int32) : Int32 := sm (S_worn w) 4
def S_hnum (w : Nat → Int32) (i q : Nat) : Int32 := if q = 6 then S_lets w i else if q = 7 then w (hx i 8) else w (hx i q)

set_option maxHeartbeats 4000000 in
set_option maxRecDepth 100000 in
theorem t_X3_copyFrom {D : va_G} {s0 : State} {l : Launch} {B : Nat} {A : AT} {σ : Sg} (hA : AOK B A) {k k2 i : Nat} (hk : k < 11) (hk2 : k2 < 11) (hi : i < 8) (hn : k ≠ k2) (hb : σ.1 5 k2 (hx i 7) = 0 ∨ σ.1 5 k2 (hx i 7) = 1) : Tri D s0 l yX3_copyFrom cX3_copyFrom 2 (none) 0 0 0 [.ref (A 9 k i), .ref (A 9 k2 i)] (HP A σ) (fun r G' => r = none ∧ G' = HP A (cp σ k k2 (fun j => decide (14 + 9 * i ≤ j ∧ j < 23 + 9 * i)))) noX := by
  refine Tri.ofV (own := RX3) (mn := "copyFrom") (by decide +kernel) rfl rfl (Nat.le_of_ble_eq_true rfl) ?_
  refine V_aload_n (i := 0) dX3_copyFrom_0 rfl rfl ?_
  refine V_aload_n (i := 1) dX3_copyFrom_1 rfl rfl ?_
  refine V_getf fl_X3_9 dX3_copyFrom_2 (hp9 hA (by omega) (by omega)) rfl ?_
  refine VP_9_0 fl_X3_9 dX3_copyFrom_5 hA (by omega) (by omega) ?_
  refine V_aload_n (i := 0) dX3_copyFrom_8 rfl rfl ?_
  refine V_aload_n (i := 1) dX3_copyFrom_9 rfl rfl ?_
  refine V_getf fl_X3_15 dX3_copyFrom_10 (hp9 hA (by omega) (by omega)) rfl ?_
  refine VP_9_1 fl_X3_15 dX3_copyFrom_13 hA (by omega) (by omega) ?_
  refine V_aload_n (i := 0) dX3_copyFrom_16 rfl rfl ?_
  refine V_aload_n (i := 1) dX3_copyFrom_17 rfl rfl ?_
  refine V_getf fl_X3_18 dX3_copyFrom_18 (hp9 hA (by omega) (by omega)) rfl ?_
  refine VP_9_2 fl_X3_18 dX3_copyFrom_21 hA (by omega) (by omega) ?_
  refine V_aload_n (i := 0) dX3_copyFrom_24 rfl rfl ?_
  refine V_aload_n (i := 1) dX3_copyFrom_25 rfl rfl ?_
  refine V_getf fl_X3_21 dX3_copyFrom_26 (hp9 hA (by omega) (by omega)) rfl ?_
  refine VP_9_3 fl_X3_21 dX3_copyFrom_29 hA (by omega) (by omega) ?_
  refine V_aload_n (i := 0) dX3_copyFrom_32 rfl rfl ?_
  refine V_aload_n (i := 1) dX3_copyFrom_33 rfl rfl ?_
  refine V_getf fl_X3_24 dX3_copyFrom_34 (hp9 hA (by omega) (by omega)) rfl ?_
  refine VP_9_4 fl_X3_24 dX3_copyFrom_37 hA (by omega) (by omega) ?_
  refine V_aload_n (i := 0) dX3_copyFrom_40 rfl rfl ?_
  refine V_aload_n (i := 1) dX3_copyFrom_41 rfl rfl ?_
  refine V_getf fl_X3_27 dX3_copyFrom_42 (hp9 hA (by omega) (by omega)) rfl ?_
  refine VP_9_5 fl_X3_27 dX3_copyFrom_45 hA (by omega) (by omega) ?_
  refine V_aload_n (i := 0) dX3_copyFrom_48 rfl rfl ?_
  refine V_aload_n (i := 1) dX3_copyFrom_49 rfl rfl ?_
  refine V_getf fl_X3_30 dX3_copyFrom_50 (hp9 hA (by omega) (by omega)) rfl ?_
  refine VP_9_6 fl_X3_30 dX3_copyFrom_53 hA (by omega) (by omega) ?_
  refine V_aload_n (i := 0) dX3_copyFrom_56 rfl rfl ?_
  refine V_aload_n (i := 1) dX3_copyFrom_57 rfl rfl ?_
  refine V_getf fl_X3_33 dX3_copyFrom_58 (hp9 hA (by omega) (by omega)) rfl ?_
  refine VP_9_7 fl_X3_33 dX3_copyFrom_61 hA (by omega) (by omega) (by simp only [w3_k hn]; exact hb) ?_
  refine V_aload_n (i := 0) dX3_copyFrom_64 rfl rfl ?_
  refine V_aload_n (i := 1) dX3_copyFrom_65 rfl rfl ?_
  refine V_getf fl_X3_37 dX3_copyFrom_66 (hp9 hA (by omega) (by omega)) rfl ?_
  refine VP_9_8 fl_X3_37 dX3_copyFrom_69 hA (by omega) (by omega) ?_
  refine V_vret dX3_copyFrom_72 rfl (Nat.le_of_ble_eq_true rfl) (Nat.le_of_ble_eq_true rfl) ?_
  refine ⟨rfl, congrArg (HP A) ?_⟩
  simp only [w3_k hn, cp_src hn, cp_0, cp_w3, cp_cp hn]
  refine cp_ext (fun j => Bool.eq_iff_iff.mpr ?_)
  simp only [hx, kx, Bool.or_eq_true, beq_iff_eq, decide_eq_true_eq]
  omega

set_option maxHeartbeats 4000000 in
set_option maxRecDepth 100000 in
theorem t_X0_copyFrom {D : va_G} {s0 : State} {l : Launch} {B : Nat} {A : AT} {σ : Sg} (hA : AOK B A) {k k2 i : Nat} (hk : k < 11) (hk2 : k2 < 11) (hi : i < 4) (hn : k ≠ k2) : Tri D s0 l yX0_copyFrom cX0_copyFrom 2 (none) 0 0 0 [.ref (A 10 k i), .ref (A 10 k2 i)] (HP A σ) (fun r G' => r = none ∧ G' = HP A (cp σ k k2 (fun j => decide (86 + 4 * i ≤ j ∧ j < 90 + 4 * i)))) noX := by
  refine Tri.ofV (own := RX0) (mn := "copyFrom") (by decide +kernel) rfl rfl (Nat.le_of_ble_eq_true rfl) ?_
  refine V_aload_n (i := 0) dX0_copyFrom_0 rfl rfl ?_
  refine V_aload_n (i := 1) dX0_copyFrom_1 rfl rfl ?_
  refine V_getf fl_X0_9 dX0_copyFrom_2 (hp10 hA (by omega) (by omega)) rfl ?_
  refine VP_10_0 fl_X0_9 dX0_copyFrom_5 hA (by omega) (by omega) ?_
  refine V_aload_n (i := 0) dX0_copyFrom_8 rfl rfl ?_
  refine V_aload_n (i := 1) dX0_copyFrom_9 rfl rfl ?_
  refine V_getf fl_X0_15 dX0_copyFrom_10 (hp10 hA (by omega) (by omega)) rfl ?_
  refine VP_10_1 fl_X0_15 dX0_copyFrom_13 hA (by omega) (by omega) ?_
  refine V_aload_n (i := 0) dX0_copyFrom_16 rfl rfl ?_
  refine V_aload_n (i := 1) dX0_copyFrom_17 rfl rfl ?_
  refine V_getf fl_X0_18 dX0_copyFrom_18 (hp10 hA (by omega) (by omega)) rfl ?_
  refine VP_10_2 fl_X0_18 dX0_copyFrom_21 hA (by omega) (by omega) ?_
  refine V_aload_n (i := 0) dX0_copyFrom_24 rfl rfl ?_
  refine V_aload_n (i := 1) dX0_copyFrom_25 rfl rfl ?_
  refine V_getf fl_X0_21 dX0_copyFrom_26 (hp10 hA (by omega) (by omega)) rfl ?_
  refine VP_10_3 fl_X0_21 dX0_copyFrom_29 hA (by omega) (by omega) ?_
  refine V_vret dX0_copyFrom_32 rfl (Nat.le_of_ble_eq_true rfl) (Nat.le_of_ble_eq_true rfl) ?_
  refine ⟨rfl, congrArg (HP A) ?_⟩
  simp only [w3_k hn, cp_src hn, cp_0, cp_w3, cp_cp hn]
  refine cp_ext (fun j => Bool.eq_iff_iff.mpr ?_)
  simp only [hx, kx, Bool.or_eq_true, beq_iff_eq, decide_eq_true_eq]
  omega

set_option maxHeartbeats 4000000 in
set_option maxRecDepth 100000 in
theorem t_X3_dogStillLets {D : va_G} {s0 : State} {l : Launch} {B : Nat} {A : AT} {σ : Sg} (hA : AOK B A) {k i : Nat} (hk : k < 11) (hi : i < 8) : Tri D s0 l yX3_dogStillLets cX3_dogStillLets 1 ((some .int)) 0 0 0 [.ref (A 9 k i)] (HP A σ) (fun r G' => r = some (.int (S_lets (σ.1 5 k) i)) ∧ G' = HP A σ) noX := by
  refine Tri.ofV (own := RX3) (mn := "dogStillLets") (by decide +kernel) rfl rfl (Nat.le_of_ble_eq_true rfl) ?_
  refine V_aload_n (i := 0) dX3_dogStillLets_0 rfl rfl ?_
  refine V_getf fl_X3_15 dX3_dogStillLets_1 (hp9 hA (by omega) (by omega)) rfl ?_
  refine V_if_eq (tgt := 14) dX3_dogStillLets_4 (by decide) (fun h4 => ?_) (fun h4 => ?_)
  · refine V_bipush (v := 99) dX3_dogStillLets_14 (by decide) ?_
    refine V_iret dX3_dogStillLets_16 rfl (Nat.le_of_ble_eq_true rfl) (Nat.le_of_ble_eq_true rfl) ?_
    refine ⟨congrArg (fun z => some (Value.int z)) ?_, rfl⟩
    simp_all [S_lets]
  · refine V_aload_n (i := 0) dX3_dogStillLets_7 rfl rfl ?_
    refine V_getf fl_X3_33 dX3_dogStillLets_8 (hp9 hA (by omega) (by omega)) rfl ?_
    refine V_if_eq (tgt := 17) dX3_dogStillLets_11 (by decide) (fun h11 => ?_) (fun h11 => ?_)
    · refine V_aload_n (i := 0) dX3_dogStillLets_17 rfl rfl ?_
      refine V_getf fl_X3_15 dX3_dogStillLets_18 (hp9 hA (by omega) (by omega)) rfl ?_
      refine V_iconst (v := 2) dX3_dogStillLets_21 (by decide) ?_
      refine V_icmp_ne (tgt := 29) dX3_dogStillLets_22 (by decide) (fun h22 => ?_) (fun h22 => ?_)
      · refine V_iconst (v := 0) dX3_dogStillLets_29 (by decide) ?_
        refine V_iconst (v := 2) dX3_dogStillLets_30 (by decide) ?_
        refine V_aload_n (i := 0) dX3_dogStillLets_31 rfl rfl ?_
        refine V_getf fl_X3_30 dX3_dogStillLets_32 (hp9 hA (by omega) (by omega)) rfl ?_
        refine V_isub dX3_dogStillLets_35 ?_
        refine V_mmax cm_X3_44 dX3_dogStillLets_36 (Nat.le_of_ble_eq_true rfl) (Nat.le_of_ble_eq_true rfl) (Nat.le_of_ble_eq_true rfl) (Nat.le_of_ble_eq_true rfl) ?_
        refine V_iret dX3_dogStillLets_39 rfl (Nat.le_of_ble_eq_true rfl) (Nat.le_of_ble_eq_true rfl) ?_
        refine ⟨congrArg (fun z => some (Value.int z)) ?_, rfl⟩
        simp_all [S_lets]
      · refine V_iconst (v := 0) dX3_dogStillLets_25 (by decide) ?_
        refine V_goto (tgt := 39) dX3_dogStillLets_26 (by decide) ?_
        refine V_iret dX3_dogStillLets_39 rfl (Nat.le_of_ble_eq_true rfl) (Nat.le_of_ble_eq_true rfl) ?_
        refine ⟨congrArg (fun z => some (Value.int z)) ?_, rfl⟩
        simp_all [S_lets]
    · refine V_bipush (v := 99) dX3_dogStillLets_14 (by decide) ?_
      refine V_iret dX3_dogStillLets_16 rfl (Nat.le_of_ble_eq_true rfl) (Nat.le_of_ble_eq_true rfl) ?_
      refine ⟨congrArg (fun z => some (Value.int z)) ?_, rfl⟩
      simp_all [S_lets]

set_option maxHeartbeats 4000000 in
set_option maxRecDepth 100000 in
theorem t_X3_number {D : va_G} {s0 : State} {l : Launch} {B : Nat} {A : AT} {σ : Sg} (hA : AOK B A) {k i : Nat} (hk : k < 11) (hi : i < 8) {q : Nat} (hq : q < 8) : Tri D s0 l yX3_number cX3_number 2 ((some .int)) 1 0 0 [.ref (A 9 k i), .int (nI q)] (HP A σ) (fun r G' => r = some (.int (S_hnum (σ.1 5 k) i q)) ∧ G' = HP A σ) noX := by
  refine Tri.ofV (own := RX3) (mn := "number") (by decide +kernel) rfl rfl (Nat.le_of_ble_eq_true rfl) ?_
  refine V_iload_n (i := 1) dX3_number_0 rfl rfl ?_
  rcases (by omega : q = 0 ∨ q = 1 ∨ q = 2 ∨ q = 3 ∨ q = 4 ∨ q = 5 ∨ q = 6 ∨ q = 7) with rfl | rfl | rfl | rfl | rfl | rfl | rfl | rfl
  · refine V_tableIn (tgt := 44) dX3_number_1 (by decide) (by decide) rfl (by decide) ?_
    refine V_aload_n (i := 0) dX3_number_44 rfl rfl ?_
    refine V_getf fl_X3_9 dX3_number_45 (hp9 hA (by omega) (by omega)) rfl ?_
    refine V_iret dX3_number_48 rfl (Nat.le_of_ble_eq_true rfl) (Nat.le_of_ble_eq_true rfl) ?_
    exact ⟨rfl, rfl⟩
  · refine V_tableIn (tgt := 49) dX3_number_1 (by decide) (by decide) rfl (by decide) ?_
    refine V_aload_n (i := 0) dX3_number_49 rfl rfl ?_
    refine V_getf fl_X3_15 dX3_number_50 (hp9 hA (by omega) (by omega)) rfl ?_
    refine V_iret dX3_number_53 rfl (Nat.le_of_ble_eq_true rfl) (Nat.le_of_ble_eq_true rfl) ?_
    exact ⟨rfl, rfl⟩
  · refine V_tableIn (tgt := 54) dX3_number_1 (by decide) (by decide) rfl (by decide) ?_
    refine V_aload_n (i := 0) dX3_number_54 rfl rfl ?_
    refine V_getf fl_X3_18 dX3_number_55 (hp9 hA (by omega) (by omega)) rfl ?_
    refine V_iret dX3_number_58 rfl (Nat.le_of_ble_eq_true rfl) (Nat.le_of_ble_eq_true rfl) ?_
    exact ⟨rfl, rfl⟩
  · refine V_tableIn (tgt := 59) dX3_number_1 (by decide) (by decide) rfl (by decide) ?_
    refine V_aload_n (i := 0) dX3_number_59 rfl rfl ?_
    refine V_getf fl_X3_21 dX3_number_60 (hp9 hA (by omega) (by omega)) rfl ?_
    refine V_iret dX3_number_63 rfl (Nat.le_of_ble_eq_true rfl) (Nat.le_of_ble_eq_true rfl) ?_
    exact ⟨rfl, rfl⟩
  · refine V_tableIn (tgt := 64) dX3_number_1 (by decide) (by decide) rfl (by decide) ?_
    refine V_aload_n (i := 0) dX3_number_64 rfl rfl ?_
    refine V_getf fl_X3_24 dX3_number_65 (hp9 hA (by omega) (by omega)) rfl ?_
    refine V_iret dX3_number_68 rfl (Nat.le_of_ble_eq_true rfl) (Nat.le_of_ble_eq_true rfl) ?_
    exact ⟨rfl, rfl⟩
  · refine V_tableIn (tgt := 69) dX3_number_1 (by decide) (by decide) rfl (by decide) ?_
    refine V_aload_n (i := 0) dX3_number_69 rfl rfl ?_
    refine V_getf fl_X3_27 dX3_number_70 (hp9 hA (by omega) (by omega)) rfl ?_
    refine V_iret dX3_number_73 rfl (Nat.le_of_ble_eq_true rfl) (Nat.le_of_ble_eq_true rfl) ?_
    exact ⟨rfl, rfl⟩
  · refine V_tableIn (tgt := 74) dX3_number_1 (by decide) (by decide) rfl (by decide) ?_
    refine V_aload_n (i := 0) dX3_number_74 rfl rfl ?_
    refine Cv1_0 (d := 1) cv_X3_40 dX3_number_75 (t_X3_dogStillLets hA hk hi) (hp9 hA (by omega) (by omega)) rfl rfl (Nat.le_of_ble_eq_true rfl) ⟨Nat.le_refl _, Nat.le_refl _⟩ (by decide) ⟨Nat.le_of_ble_eq_true rfl, Nat.le_of_ble_eq_true rfl⟩ ?_
    refine V_iret dX3_number_78 rfl (Nat.le_of_ble_eq_true rfl) (Nat.le_of_ble_eq_true rfl) ?_
    exact ⟨rfl, rfl⟩
  · refine V_tableOut (tgt := 79) dX3_number_1 (by decide) (by decide) ?_
    refine V_aload_n (i := 0) dX3_number_79 rfl rfl ?_
    refine V_getf fl_X3_37 dX3_number_80 (hp9 hA (by omega) (by omega)) rfl ?_
    refine V_iret dX3_number_83 rfl (Nat.le_of_ble_eq_true rfl) (Nat.le_of_ble_eq_true rfl) ?_
    exact ⟨rfl, rfl⟩

set_option maxHeartbeats 4000000 in
set_option maxRecDepth 100000 in
theorem t_X3_takeSack {D : va_G} {s0 : State} {l : Launch} {B : Nat} {A : AT} {σ : Sg} (hA : AOK B A) {k i : Nat} (hk : k < 11) (hi : i < 8) {x : Int32} : Tri D s0 l yX3_takeSack cX3_takeSack 2 (none) 0 0 0 [.ref (A 9 k i), .int x] (HP A σ) (fun r G' => r = none ∧ G' = HP A (row σ 5 k (S_take (σ.1 5 k) i x))) noX := by
  refine Tri.ofV (own := RX3) (mn := "takeSack") (by decide +kernel) rfl rfl (Nat.le_of_ble_eq_true rfl) ?_
  refine V_aload_n (i := 0) dX3_takeSack_0 rfl rfl ?_
  refine V_dup dX3_takeSack_1 rfl ?_
  refine V_getf fl_X3_21 dX3_takeSack_2 (hp9 hA (by omega) (by omega)) rfl ?_
  refine V_iconst (v := 1) dX3_takeSack_5 (by decide) ?_
  refine V_isub dX3_takeSack_6 ?_
  refine VP_9_3 fl_X3_21 dX3_takeSack_7 hA (by omega) (by omega) ?_
  refine V_aload_n (i := 0) dX3_takeSack_10 rfl rfl ?_
  refine V_dup dX3_takeSack_11 rfl ?_
  refine V_getf fl_X3_24 dX3_takeSack_12 (hp9 hA (by omega) (by omega)) rfl ?_
  refine V_iconst (v := 3) dX3_takeSack_15 (by decide) ?_
  refine V_iadd dX3_takeSack_16 ?_
  refine VP_9_4 fl_X3_24 dX3_takeSack_17 hA (by omega) (by omega) ?_
  refine V_aload_n (i := 0) dX3_takeSack_20 rfl rfl ?_
  refine V_dup dX3_takeSack_21 rfl ?_
  refine V_getf fl_X3_27 dX3_takeSack_22 (hp9 hA (by omega) (by omega)) rfl ?_
  refine V_iload_n (i := 1) dX3_takeSack_25 rfl rfl ?_
  refine V_iconst (v := 3) dX3_takeSack_26 (by decide) ?_
  refine V_idiv dX3_takeSack_27 (by decide) ?_
  refine V_iadd dX3_takeSack_28 ?_
  refine VP_9_5 fl_X3_27 dX3_takeSack_29 hA (by omega) (by omega) ?_
  refine V_aload_n (i := 0) dX3_takeSack_32 rfl rfl ?_
  refine V_dup dX3_takeSack_33 rfl ?_
  refine V_getf fl_X3_30 dX3_takeSack_34 (hp9 hA (by omega) (by omega)) rfl ?_
  refine V_iconst (v := 1) dX3_takeSack_37 (by decide) ?_
  refine V_iadd dX3_takeSack_38 ?_
  refine VP_9_6 fl_X3_30 dX3_takeSack_39 hA (by omega) (by omega) ?_
  refine V_aload_n (i := 0) dX3_takeSack_42 rfl rfl ?_
  refine V_dup dX3_takeSack_43 rfl ?_
  refine V_getf fl_X3_37 dX3_takeSack_44 (hp9 hA (by omega) (by omega)) rfl ?_
  refine V_iconst (v := 1) dX3_takeSack_47 (by decide) ?_
  refine V_iadd dX3_takeSack_48 ?_
  refine VP_9_8 fl_X3_37 dX3_takeSack_49 hA (by omega) (by omega) ?_
  refine V_vret dX3_takeSack_52 rfl (Nat.le_of_ble_eq_true rfl) (Nat.le_of_ble_eq_true rfl) ?_
  refine ⟨rfl, congrArg (HP A) ?_⟩
  simp only [w3_row, row_row, row_at]
  rfl

set_option maxHeartbeats 4000000 in
set_option maxRecDepth 100000 in
theorem t_X3_beginDay {D : va_G} {s0 : State} {l : Launch} {B : Nat} {A : AT} {σ : Sg} (hA : AOK B A) {k i : Nat} (hk : k < 11) (hi : i < 8) : Tri D s0 l yX3_beginDay cX3_beginDay 1 (none) 0 0 0 [.ref (A 9 k i)] (HP A σ) (fun r G' => r = none ∧ G' = HP A (row σ 5 k (S_hday (σ.1 5 k) i))) noX := by
  refine Tri.ofV (own := RX3) (mn := "beginDay") (by decide +kernel) rfl rfl (Nat.le_of_ble_eq_true rfl) ?_
  refine V_aload_n (i := 0) dX3_beginDay_0 rfl rfl ?_
  refine V_iconst (v := 0) dX3_beginDay_1 (by decide) ?_
  refine VP_9_6 fl_X3_30 dX3_beginDay_2 hA (by omega) (by omega) ?_
  refine V_aload_n (i := 0) dX3_beginDay_5 rfl rfl ?_
  refine V_iconst (v := 0) dX3_beginDay_6 (by decide) ?_
  refine VP_9_7 fl_X3_33 dX3_beginDay_7 hA (by omega) (by omega) (Or.inl rfl) ?_
  refine V_vret dX3_beginDay_10 rfl (Nat.le_of_ble_eq_true rfl) (Nat.le_of_ble_eq_true rfl) ?_
  refine ⟨rfl, congrArg (HP A) ?_⟩
  simp only [w3_row, row_row, row_at]
  rfl

set_option maxHeartbeats 4000000 in
set_option maxRecDepth 100000 in
theorem t_X3_beginWeek {D : va_G} {s0 : State} {l : Launch} {B : Nat} {A : AT} {σ : Sg} (hA : AOK B A) {k i : Nat} (hk : k < 11) (hi : i < 8) : Tri D s0 l yX3_beginWeek cX3_beginWeek 1 (none) 0 0 0 [.ref (A 9 k i)] (HP A σ) (fun r G' => r = none ∧ G' = HP A (row σ 5 k (S_hweek (σ.1 5 k) i))) noX := by
  refine Tri.ofV (own := RX3) (mn := "beginWeek") (by decide +kernel) rfl rfl (Nat.le_of_ble_eq_true rfl) ?_
  refine V_aload_n (i := 0) dX3_beginWeek_0 rfl rfl ?_
  refine V_bipush (v := 20) dX3_beginWeek_1 (by decide) ?_
  refine V_aload_n (i := 0) dX3_beginWeek_3 rfl rfl ?_
  refine V_getf fl_X3_21 dX3_beginWeek_4 (hp9 hA (by omega) (by omega)) rfl ?_
  refine V_aload_n (i := 0) dX3_beginWeek_7 rfl rfl ?_
  refine V_getf fl_X3_18 dX3_beginWeek_8 (hp9 hA (by omega) (by omega)) rfl ?_
  refine V_iadd dX3_beginWeek_11 ?_
  refine V_mmin cm_X3_50 dX3_beginWeek_12 (Nat.le_of_ble_eq_true rfl) (Nat.le_of_ble_eq_true rfl) (Nat.le_of_ble_eq_true rfl) (Nat.le_of_ble_eq_true rfl) ?_
  refine VP_9_3 fl_X3_21 dX3_beginWeek_15 hA (by omega) (by omega) ?_
  refine V_vret dX3_beginWeek_18 rfl (Nat.le_of_ble_eq_true rfl) (Nat.le_of_ble_eq_true rfl) ?_
  refine ⟨rfl, congrArg (HP A) ?_⟩
  simp only [w3_row, row_row, row_at]
  rfl

set_option maxHeartbeats 4000000 in
set_option maxRecDepth 100000 in
theorem t_X0_beginDay {D : va_G} {s0 : State} {l : Launch} {B : Nat} {A : AT} {σ : Sg} (hA : AOK B A) {k i : Nat} (hk : k < 11) (hi : i < 4) : Tri D s0 l yX0_beginDay cX0_beginDay 1 (none) 0 0 0 [.ref (A 10 k i)] (HP A σ) (fun r G' => r = none ∧ G' = HP A (row σ 5 k (S_cday (σ.1 5 k) i))) noX := by
  refine Tri.ofV (own := RX0) (mn := "beginDay") (by decide +kernel) rfl rfl (Nat.le_of_ble_eq_true rfl) ?_
  refine V_aload_n (i := 0) dX0_beginDay_0 rfl rfl ?_
  refine V_iconst (v := 0) dX0_beginDay_1 (by decide) ?_
  refine V_aload_n (i := 0) dX0_beginDay_2 rfl rfl ?_
  refine V_getf fl_X0_15 dX0_beginDay_3 (hp10 hA (by omega) (by omega)) rfl ?_
  refine V_bipush (v := 8) dX0_beginDay_6 (by decide) ?_
  refine V_isub dX0_beginDay_8 ?_
  refine V_mmax cm_X0_43 dX0_beginDay_9 (Nat.le_of_ble_eq_true rfl) (Nat.le_of_ble_eq_true rfl) (Nat.le_of_ble_eq_true rfl) (Nat.le_of_ble_eq_true rfl) ?_
  refine VP_10_1 fl_X0_15 dX0_beginDay_12 hA (by omega) (by omega) ?_
  refine V_aload_n (i := 0) dX0_beginDay_15 rfl rfl ?_
  refine V_iconst (v := 0) dX0_beginDay_16 (by decide) ?_
  refine VP_10_2 fl_X0_18 dX0_beginDay_17 hA (by omega) (by omega) ?_
  refine V_vret dX0_beginDay_20 rfl (Nat.le_of_ble_eq_true rfl) (Nat.le_of_ble_eq_true rfl) ?_
  refine ⟨rfl, congrArg (HP A) ?_⟩
  simp only [w3_row, row_row, row_at]
  rfl

set_option maxHeartbeats 4000000 in
set_option maxRecDepth 100000 in
theorem t_X0_tiredByASack {D : va_G} {s0 : State} {l : Launch} {B : Nat} {A : AT} {σ : Sg} (hA : AOK B A) {k c h : Nat} (hk : k < 11) (hc : c < 4) (hh : h < 8) : Tri D s0 l yX0_tiredByASack cX0_tiredByASack 3 ((some .int)) 0 0 0 [.ref (A 10 k c), .ref (A 9 k h)] (HP A σ) (fun r G' => r = some (.int (S_tired (σ.1 5 k) c h)) ∧ G' = HP A σ) noX := by
  refine Tri.ofV (own := RX0) (mn := "tiredByASack") (by decide +kernel) rfl rfl (Nat.le_of_ble_eq_true rfl) ?_
  refine V_iconst (v := 5) dX0_tiredByASack_0 (by decide) ?_
  refine V_aload_n (i := 0) dX0_tiredByASack_1 rfl rfl ?_
  refine V_getf fl_X0_9 dX0_tiredByASack_2 (hp10 hA (by omega) (by omega)) rfl ?_
  refine V_iadd dX0_tiredByASack_5 ?_
  refine V_istore_n (i := 2) dX0_tiredByASack_6 rfl (by decide) ?_
  refine V_iload_n (i := 2) dX0_tiredByASack_7 rfl rfl ?_
  refine V_if_gt (tgt := 15) dX0_tiredByASack_8 (by decide) (fun h8 => ?_) (fun h8 => ?_)
  · refine V_iconst (v := 1) dX0_tiredByASack_15 (by decide) ?_
    refine V_bipush (v := 6) dX0_tiredByASack_16 (by decide) ?_
    refine V_aload_n (i := 1) dX0_tiredByASack_18 rfl rfl ?_
    refine V_getf fl_X0_24 dX0_tiredByASack_19 (hp9 hA (by omega) (by omega)) rfl ?_
    refine V_imul dX0_tiredByASack_22 ?_
    refine V_iload_n (i := 2) dX0_tiredByASack_23 rfl rfl ?_
    refine V_idiv dX0_tiredByASack_24 (fun h => by rw [h] at h8; exact absurd h8 (by decide)) ?_
    refine V_iadd dX0_tiredByASack_25 ?_
    refine V_iret dX0_tiredByASack_26 rfl (Nat.le_of_ble_eq_true rfl) (Nat.le_of_ble_eq_true rfl) ?_
    refine ⟨congrArg (fun z => some (Value.int z)) ?_, rfl⟩
    first | rw [S_tired, if_pos h8] | rw [S_tired, if_neg h8]
  · refine V_iconst (v := 1) dX0_tiredByASack_11 (by decide) ?_
    refine V_goto (tgt := 26) dX0_tiredByASack_12 (by decide) ?_
    refine V_iret dX0_tiredByASack_26 rfl (Nat.le_of_ble_eq_true rfl) (Nat.le_of_ble_eq_true rfl) ?_
    refine ⟨congrArg (fun z => some (Value.int z)) ?_, rfl⟩
    first | rw [S_tired, if_pos h8] | rw [S_tired, if_neg h8]


set_option maxHeartbeats 4000000 in
set_option maxRecDepth 100000 in
theorem t_X0_carrySack {D : va_G} {s0 : State} {l : Launch} {B : Nat} {A : AT} {σ : Sg} (hA : AOK B A) {k c h : Nat} (hk : k < 11) (hc : c < 4) (hh : h < 8) : Tri D s0 l yX0_carrySack cX0_carrySack 2 (none) 1 0 0 [.ref (A 10 k c), .ref (A 9 k h)] (HP A σ) (fun r G' => r = none ∧ G' = HP A (row σ 5 k (S_sack (σ.1 5 k) c h))) noX := by
  refine Tri.ofV (own := RX0) (mn := "carrySack") (by decide +kernel) rfl rfl (Nat.le_of_ble_eq_true rfl) ?_
  refine V_aload_n (i := 0) dX0_carrySack_0 rfl rfl ?_
  refine V_dup dX0_carrySack_1 rfl ?_
  refine V_getf fl_X0_15 dX0_carrySack_2 (hp10 hA (by omega) (by omega)) rfl ?_
  refine V_aload_n (i := 0) dX0_carrySack_5 rfl rfl ?_
  refine V_aload_n (i := 1) dX0_carrySack_6 rfl rfl ?_
  refine Cv1_1 (d := 1) cv_X0_29 dX0_carrySack_7 (t_X0_tiredByASack hA hk hc hh) (hp10 hA (by omega) (by omega)) rfl rfl (Nat.le_of_ble_eq_true rfl) ⟨Nat.le_refl _, Nat.le_refl _⟩ (by decide) ⟨Nat.le_of_ble_eq_true rfl, Nat.le_of_ble_eq_true rfl⟩ ?_
  refine V_iadd dX0_carrySack_10 ?_
  refine VP_10_1 fl_X0_15 dX0_carrySack_11 hA (by omega) (by omega) ?_
  refine V_aload_n (i := 0) dX0_carrySack_14 rfl rfl ?_
  refine V_bipush (v := 9) dX0_carrySack_15 (by decide) ?_
  refine V_aload_n (i := 0) dX0_carrySack_17 rfl rfl ?_
  refine V_getf fl_X0_18 dX0_carrySack_18 (hp10 hA (by omega) (by omega)) rfl ?_
  refine V_iconst (v := 1) dX0_carrySack_21 (by decide) ?_
  refine V_iadd dX0_carrySack_22 ?_
  refine V_mmin cm_X0_33 dX0_carrySack_23 (Nat.le_of_ble_eq_true rfl) (Nat.le_of_ble_eq_true rfl) (Nat.le_of_ble_eq_true rfl) (Nat.le_of_ble_eq_true rfl) ?_
  refine VP_10_2 fl_X0_18 dX0_carrySack_26 hA (by omega) (by omega) ?_
  refine V_aload_n (i := 0) dX0_carrySack_29 rfl rfl ?_
  refine V_dup dX0_carrySack_30 rfl ?_
  refine V_getf fl_X0_21 dX0_carrySack_31 (hp10 hA (by omega) (by omega)) rfl ?_
  refine V_iconst (v := 1) dX0_carrySack_34 (by decide) ?_
  refine V_iadd dX0_carrySack_35 ?_
  refine VP_10_3 fl_X0_21 dX0_carrySack_36 hA (by omega) (by omega) ?_
  refine V_aload_n (i := 1) dX0_carrySack_39 rfl rfl ?_
  refine V_aload_n (i := 0) dX0_carrySack_40 rfl rfl ?_
  refine V_getf fl_X0_18 dX0_carrySack_41 (hp10 hA (by omega) (by omega)) rfl ?_
  refine Cv0_1 (d := 1) cv_X0_39 dX0_carrySack_44 (t_X3_takeSack hA hk hh) (hp9 hA (by omega) (by omega)) rfl rfl (Nat.le_of_ble_eq_true rfl) ⟨Nat.le_refl _, Nat.le_refl _⟩ (by decide) ⟨Nat.le_of_ble_eq_true rfl, Nat.le_of_ble_eq_true rfl⟩ ?_
  refine V_vret dX0_carrySack_47 rfl (Nat.le_of_ble_eq_true rfl) (Nat.le_of_ble_eq_true rfl) ?_
  refine ⟨rfl, congrArg (HP A) ?_⟩
  simp only [w3_row, row_row, row_at]
  rfl

set_option maxHeartbeats 4000000 in
set_option maxRecDepth 100000 in
theorem t_X0_number {D : va_G} {s0 : State} {l : Launch} {B : Nat} {A : AT} {σ : Sg} (hA : AOK B A) {k i : Nat} (hk : k < 11) (hi : i < 4) {q : Nat} (hq : q < 4) : Tri D s0 l yX0_number cX0_number 2 ((some .int)) 0 0 0 [.ref (A 10 k i), .int (nI q)] (HP A σ) (fun r G' => r = some (.int (σ.1 5 k (kx i q))) ∧ G' = HP A σ) noX := by
  refine Tri.ofV (own := RX0) (mn := "number") (by decide +kernel) rfl rfl (Nat.le_of_ble_eq_true rfl) ?_
  refine V_iload_n (i := 1) dX0_number_0 rfl rfl ?_
  rcases (by omega : q = 0 ∨ q = 1 ∨ q = 2 ∨ q = 3) with rfl | rfl | rfl | rfl
  · refine V_tableIn (tgt := 28) dX0_number_1 (by decide) (by decide) rfl (by decide) ?_
    refine V_aload_n (i := 0) dX0_number_28 rfl rfl ?_
    refine V_getf fl_X0_9 dX0_number_29 (hp10 hA (by omega) (by omega)) rfl ?_
    refine V_iret dX0_number_32 rfl (Nat.le_of_ble_eq_true rfl) (Nat.le_of_ble_eq_true rfl) ?_
    exact ⟨rfl, rfl⟩
  · refine V_tableIn (tgt := 33) dX0_number_1 (by decide) (by decide) rfl (by decide) ?_
    refine V_aload_n (i := 0) dX0_number_33 rfl rfl ?_
    refine V_getf fl_X0_15 dX0_number_34 (hp10 hA (by omega) (by omega)) rfl ?_
    refine V_iret dX0_number_37 rfl (Nat.le_of_ble_eq_true rfl) (Nat.le_of_ble_eq_true rfl) ?_
    exact ⟨rfl, rfl⟩
  · refine V_tableIn (tgt := 38) dX0_number_1 (by decide) (by decide) rfl (by decide) ?_
    refine V_aload_n (i := 0) dX0_number_38 rfl rfl ?_
    refine V_getf fl_X0_18 dX0_number_39 (hp10 hA (by omega) (by omega)) rfl ?_
    refine V_iret dX0_number_42 rfl (Nat.le_of_ble_eq_true rfl) (Nat.le_of_ble_eq_true rfl) ?_
    exact ⟨rfl, rfl⟩
  · refine V_tableOut (tgt := 43) dX0_number_1 (by decide) (by decide) ?_
    refine V_aload_n (i := 0) dX0_number_43 rfl rfl ?_
    refine V_getf fl_X0_21 dX0_number_44 (hp10 hA (by omega) (by omega)) rfl ?_
    refine V_iret dX0_number_47 rfl (Nat.le_of_ble_eq_true rfl) (Nat.le_of_ble_eq_true rfl) ?_
    exact ⟨rfl, rfl⟩
