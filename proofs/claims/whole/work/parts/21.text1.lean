/-! the class: its texts. t: the text, n: its length, p: a place -/
def dgt (t : Nat → Int32) (n p : Nat) : Bool := decide (p < n) && (decide (48 ≤ t p) && decide (t p ≤ 57))
def pNum (t : Nat → Int32) (n : Nat) : Nat → Nat → Int32 → Nat × Int32
  | 0, p, v => (p, v)
  | r + 1, p, v => if dgt t n p = true then pNum t n r (p + 1) (10 * v + t p - 48) else (p, v)
def pMark (t : Nat → Int32) (n p : Nat) (c : Int32) : Bool := decide (p < n) && decide (t p = c)
def kIx (x : Int32) : Nat := if x = 103 then 0 else if x = 108 then 1 else if x = 99 then 2 else if x = 98 then 3 else if x = 109 then 4 else if x = 112 then 5 else if x = 115 then 6 else if x = 100 then 7 else 8
def fdN (k : Nat) : Nat := [1, 2, 1, 0, 1, 1, 1, 2].getD k 0
def sdN (k : Nat) : Nat := [0, 0, 1, 0, 0, 2, 0, 0].getD k 0
def mkN (k : Nat) : Nat := [0, 0, 42, 0, 0, 61, 0, 0].getD k 0
def pK (t : Nat → Int32) (n p : Nat) : Nat := if p < n then kIx (t p) else 8
/-- one command: is it one, where it ends (or the fault), its kind, its numbers -/
def pCmd (t : Nat → Int32) (n p : Nat) : Bool × Nat × Nat × Int32 × Int32 :=
  if pK t n p = 8 then (false, p, 0, 0, 0)
  else if (pNum t n (fdN (pK t n p)) (p + 1) 0).1 = p + 1 ∧ ¬ fdN (pK t n p) = 0 then (false, p + 1, 0, 0, 0)
  else if mkN (pK t n p) = 0 then (true, (pNum t n (fdN (pK t n p)) (p + 1) 0).1, pK t n p, (pNum t n (fdN (pK t n p)) (p + 1) 0).2, 0)
  else if pMark t n (pNum t n (fdN (pK t n p)) (p + 1) 0).1 (nI (mkN (pK t n p))) = false then (false, (pNum t n (fdN (pK t n p)) (p + 1) 0).1, 0, 0, 0)
  else if (pNum t n (sdN (pK t n p)) ((pNum t n (fdN (pK t n p)) (p + 1) 0).1 + 1) 0).1 = (pNum t n (fdN (pK t n p)) (p + 1) 0).1 + 1 then (false, (pNum t n (fdN (pK t n p)) (p + 1) 0).1 + 1, 0, 0, 0)
  else (true, (pNum t n (sdN (pK t n p)) ((pNum t n (fdN (pK t n p)) (p + 1) 0).1 + 1) 0).1, pK t n p, (pNum t n (fdN (pK t n p)) (p + 1) 0).2, (pNum t n (sdN (pK t n p)) ((pNum t n (fdN (pK t n p)) (p + 1) 0).1 + 1) 0).2)
/-- a text from p on: its commands, and its fault -/
def pGo (t : Nat → Int32) (n : Nat) : Nat → Nat → List (Nat × Int32 × Int32) × Option Nat
  | 0, p => ([], some p)
  | f + 1, p =>
    if (pCmd t n p).1 = false then ([], some (pCmd t n p).2.1)
    else if (pCmd t n p).2.1 = n then ([(pCmd t n p).2.2], none)
    else if pMark t n (pCmd t n p).2.1 59 = true then ((pCmd t n p).2.2 :: (pGo t n f ((pCmd t n p).2.1 + 1)).1, (pGo t n f ((pCmd t n p).2.1 + 1)).2)
    else ([(pCmd t n p).2.2], some (pCmd t n p).2.1)
theorem pNum_le {t : Nat → Int32} {n : Nat} : ∀ (r p : Nat) (v : Int32), p ≤ (pNum t n r p v).1 ∧ ((pNum t n r p v).1 ≤ n ∨ (pNum t n r p v).1 = p)
  | 0, p, v => ⟨Nat.le_refl _, Or.inr rfl⟩
  | r + 1, p, v => by
    unfold pNum
    by_cases h : dgt t n p = true
    · rw [if_pos h]
      have q := pNum_le (t := t) (n := n) r (p + 1) (10 * v + t p - 48)
      have hp : p < n := by
        simp only [dgt, Bool.and_eq_true, decide_eq_true_eq] at h
        exact h.1
      refine ⟨by omega, Or.inl ?_⟩
      rcases q.2 with z | z
      · exact z
      · omega
    · rw [if_neg h]
      exact ⟨Nat.le_refl _, Or.inr rfl⟩
/-- position and number of the class's reader -/
def nrS (σ : Sg) (p : Nat) (v : Int32) : Sg := w3 (w3 σ 11 0 2 (nI p)) 11 0 3 v
theorem nr_2 {σ : Sg} {p : Nat} {v : Int32} : (nrS σ p v).1 11 0 2 = nI p := (w3_ne (by omega)).trans (w3_eq _ _ _ _ _)
theorem nr_3 {σ : Sg} {p : Nat} {v : Int32} : (nrS σ p v).1 11 0 3 = v := w3_eq _ _ _ _ _
theorem nr_f {σ : Sg} {p : Nat} {v : Int32} {f : Nat} (h : f < 2) : (nrS σ p v).1 11 0 f = σ.1 11 0 f := (w3_ne (by omega)).trans (w3_ne (by omega))
theorem nr_a {σ : Sg} {p : Nat} {v : Int32} {a : Nat} (h : ¬ a = 11) : (nrS σ p v).1 a = σ.1 a := funext fun b => funext fun c => (w3_ne (fun q => h q.1)).trans (w3_ne (fun q => h q.1))
theorem nr_p {σ : Sg} {p q : Nat} {v : Int32} : w3 (nrS σ p v) 11 0 2 (nI q) = nrS σ q v := by
  unfold nrS
  rw [w3_row (σ := w3 (w3 σ 11 0 2 (nI p)) 11 0 3 v), w3_row (σ := w3 σ 11 0 2 (nI p)), w3_row (σ := σ), w3_row (σ := w3 σ 11 0 2 (nI q)), w3_row (σ := σ)]
  simp only [row_row, row_at]
  refine congrArg (row σ 11 0) (funext fun j => ?_)
  unfold up
  split
  · split <;> simp_all
  · split <;> simp_all
theorem nr_v {σ : Sg} {p : Nat} {v x : Int32} : w3 (nrS σ p v) 11 0 3 x = nrS σ p x := by
  unfold nrS
  rw [w3_row (σ := w3 (w3 σ 11 0 2 (nI p)) 11 0 3 v), w3_row (σ := w3 σ 11 0 2 (nI p)), w3_row (σ := w3 σ 11 0 2 (nI p))]
  simp only [row_row, row_at]
  refine congrArg (row _ 11 0) (funext fun j => ?_)
  unfold up
  split <;> simp_all
theorem nr_id {σ : Sg} {p : Nat} (h : σ.1 11 0 2 = nI p) : σ = nrS σ p (σ.1 11 0 3) := by
  unfold nrS
  refine Prod.ext (funext fun a => funext fun b => funext fun c => ?_) rfl
  unfold w3
  dsimp only
  split
  · rename_i q; rw [q.1, q.2.1, q.2.2]
  · split
    · rename_i q; rw [q.1, q.2.1, q.2.2, h]
    · rfl
section VN
variable {D : va_G} {s0 : State} {own mn : String} {cc : ByteArray} {nL : Nat} {ret : Option FieldType} {hh : List (Nat × Nat × Nat × Nat)} {l : Launch} {R : Room} {Z : ZT} {pc : Nat} {lo : List (Nat × Value)} {st : List Value} {cells slots : Nat} {B : Nat} {A : AT} {σ : Sg}
theorem VNp {index q p : Nat} {v x : Int32} (hf : FL own index 1 6) (hdg : decode cc pc = .ok (.putfield index, 3)) (hA : AOK B A) (hx : x = nI q) (kk : V D s0 own mn cc nL ret hh l R Z (pc + 3) lo st (HP A (nrS σ q v)) cells slots) : V D s0 own mn cc nL ret hh l R Z pc lo (.int x :: .ref (A 11 0 0) :: st) (HP A (nrS σ p v)) cells slots := by
  subst hx
  exact VP_11_6 hf hdg hA (V.eqG (congrArg (HP A) nr_p) kk)
theorem VNv {index p : Nat} {v x : Int32} (hf : FL own index 1 7) (hdg : decode cc pc = .ok (.putfield index, 3)) (hA : AOK B A) (kk : V D s0 own mn cc nL ret hh l R Z (pc + 3) lo st (HP A (nrS σ p x)) cells slots) : V D s0 own mn cc nL ret hh l R Z pc lo (.int x :: .ref (A 11 0 0) :: st) (HP A (nrS σ p v)) cells slots := VP_11_7 hf hdg hA (V.eqG (congrArg (HP A) nr_v) kk)
end VN

set_option maxHeartbeats 4000000 in
set_option maxRecDepth 100000 in
theorem t_X1_isDigitNext {D : va_G} {s0 : State} {l : Launch} {B : Nat} {A : AT} {σ : Sg} (hA : AOK B A) {n p : Nat} {v : Int32} (hn : σ.1 11 0 0 = nI n) (hn6 : n ≤ 60) (hp61 : p < 1000) : Tri D s0 l yX1_isDigitNext cX1_isDigitNext 1 ((some .boolean)) 0 0 0 [.ref (A 11 0 0)] (HP A (nrS σ p v)) (fun r G' => r = some (.int (bi (dgt (σ.1 12 0) n p))) ∧ G' = HP A (nrS σ p v)) noX := by
  refine Tri.ofV (own := RX1) (mn := "isDigitNext") (by decide +kernel) rfl rfl (Nat.le_of_ble_eq_true rfl) ?_
  refine V_aload_n (i := 0) dX1_isDigitNext_0 rfl rfl ?_
  refine V_getf fl_X1_25 dX1_isDigitNext_1 (hp11 hA) rfl ?_
  refine V_aload_n (i := 0) dX1_isDigitNext_4 rfl rfl ?_
  refine V_getf fl_X1_36 dX1_isDigitNext_5 (hp11 hA) rfl ?_
  refine V_icmp_ge (tgt := 43) dX1_isDigitNext_8 (by decide) (fun h8 => ?_) (fun h8 => ?_)
  · replace h8 : ¬ p < n := by rw [nr_2, nr_f (by decide), hn, nI_leI (by omega) (by omega)] at h8; omega
    refine V_iconst (v := 0) dX1_isDigitNext_43 (by decide) ?_
    refine V_zret dX1_isDigitNext_44 rfl (by first | rfl | exact bi_n _) (Nat.le_of_ble_eq_true rfl) (Nat.le_of_ble_eq_true rfl) ?_
    refine ⟨congrArg (fun z => some (Value.int z)) ?_, rfl⟩
    simp [bi, dgt, *]
  · replace h8 : p < n := by rw [nr_2, nr_f (by decide), hn, nI_leI (by omega) (by omega)] at h8; omega
    refine V_aload_n (i := 0) dX1_isDigitNext_11 rfl rfl ?_
    refine V_getf fl_X1_9 dX1_isDigitNext_12 (hp11 hA) rfl ?_
    refine V_aload_n (i := 0) dX1_isDigitNext_15 rfl rfl ?_
    refine V_getf fl_X1_25 dX1_isDigitNext_16 (hp11 hA) rfl ?_
    refine V_cald9 dX1_isDigitNext_19 (hp12 hA) nr_2 (by omega) (by decide) (congrArg Value.int (congrFun (congrFun (nr_a (by decide)) 0) _)) ?_
    refine V_bipush (v := 48) dX1_isDigitNext_20 (by decide) ?_
    refine V_icmp_lt (tgt := 43) dX1_isDigitNext_22 (by decide) (fun h22 => ?_) (fun h22 => ?_)
    · have q := Int32.not_le.mpr h22
      refine V_iconst (v := 0) dX1_isDigitNext_43 (by decide) ?_
      refine V_zret dX1_isDigitNext_44 rfl (by first | rfl | exact bi_n _) (Nat.le_of_ble_eq_true rfl) (Nat.le_of_ble_eq_true rfl) ?_
      refine ⟨congrArg (fun z => some (Value.int z)) ?_, rfl⟩
      simp [bi, dgt, *]
    · have q := Int32.not_lt.mp h22
      refine V_aload_n (i := 0) dX1_isDigitNext_25 rfl rfl ?_
      refine V_getf fl_X1_9 dX1_isDigitNext_26 (hp11 hA) rfl ?_
      refine V_aload_n (i := 0) dX1_isDigitNext_29 rfl rfl ?_
      refine V_getf fl_X1_25 dX1_isDigitNext_30 (hp11 hA) rfl ?_
      refine V_cald9 dX1_isDigitNext_33 (hp12 hA) nr_2 (by omega) (by decide) (congrArg Value.int (congrFun (congrFun (nr_a (by decide)) 0) _)) ?_
      refine V_bipush (v := 57) dX1_isDigitNext_34 (by decide) ?_
      refine V_icmp_gt (tgt := 43) dX1_isDigitNext_36 (by decide) (fun h36 => ?_) (fun h36 => ?_)
      · have q2 := Int32.not_le.mpr h36
        refine V_iconst (v := 0) dX1_isDigitNext_43 (by decide) ?_
        refine V_zret dX1_isDigitNext_44 rfl (by first | rfl | exact bi_n _) (Nat.le_of_ble_eq_true rfl) (Nat.le_of_ble_eq_true rfl) ?_
        refine ⟨congrArg (fun z => some (Value.int z)) ?_, rfl⟩
        simp [bi, dgt, *]
      · have q2 := Int32.not_lt.mp h36
        refine V_iconst (v := 1) dX1_isDigitNext_39 (by decide) ?_
        refine V_goto (tgt := 44) dX1_isDigitNext_40 (by decide) ?_
        refine V_zret dX1_isDigitNext_44 rfl (by first | rfl | exact bi_n _) (Nat.le_of_ble_eq_true rfl) (Nat.le_of_ble_eq_true rfl) ?_
        refine ⟨congrArg (fun z => some (Value.int z)) ?_, rfl⟩
        simp [bi, dgt, *]

set_option maxHeartbeats 4000000 in
set_option maxRecDepth 100000 in
theorem t_X1_isMarkRead {D : va_G} {s0 : State} {l : Launch} {B : Nat} {A : AT} {σ : Sg} (hA : AOK B A) {n p : Nat} {v : Int32} (hn : σ.1 11 0 0 = nI n) (hn6 : n ≤ 60) (hp61 : p < 990) {c : Int32} : Tri D s0 l yX1_isMarkRead cX1_isMarkRead 2 ((some .boolean)) 0 0 0 [.ref (A 11 0 0), .int c] (HP A (nrS σ p v)) (fun r G' => r = some (.int (bi (pMark (σ.1 12 0) n p c))) ∧ G' = HP A (nrS σ (if pMark (σ.1 12 0) n p c = true then p + 1 else p) v)) noX := by
  refine Tri.ofV (own := RX1) (mn := "isMarkRead") (by decide +kernel) rfl rfl (Nat.le_of_ble_eq_true rfl) ?_
  refine V_aload_n (i := 0) dX1_isMarkRead_0 rfl rfl ?_
  refine V_getf fl_X1_25 dX1_isMarkRead_1 (hp11 hA) rfl ?_
  refine V_aload_n (i := 0) dX1_isMarkRead_4 rfl rfl ?_
  refine V_getf fl_X1_36 dX1_isMarkRead_5 (hp11 hA) rfl ?_
  refine V_icmp_ge (tgt := 24) dX1_isMarkRead_8 (by decide) (fun h8 => ?_) (fun h8 => ?_)
  · replace h8 : ¬ p < n := by rw [nr_2, nr_f (by decide), hn, nI_leI (by omega) (by omega)] at h8; omega
    refine V_iconst (v := 0) dX1_isMarkRead_24 (by decide) ?_
    refine V_zret dX1_isMarkRead_25 rfl (by first | rfl | exact bi_n _) (Nat.le_of_ble_eq_true rfl) (Nat.le_of_ble_eq_true rfl) ?_
    first
      | (rw [show pMark (σ.1 12 0) n p c = true from by simp [pMark, *]]; exact ⟨rfl, rfl⟩)
      | (rw [show pMark (σ.1 12 0) n p c = false from by simp [pMark, *]]; exact ⟨rfl, rfl⟩)
  · replace h8 : p < n := by rw [nr_2, nr_f (by decide), hn, nI_leI (by omega) (by omega)] at h8; omega
    refine V_aload_n (i := 0) dX1_isMarkRead_11 rfl rfl ?_
    refine V_getf fl_X1_9 dX1_isMarkRead_12 (hp11 hA) rfl ?_
    refine V_aload_n (i := 0) dX1_isMarkRead_15 rfl rfl ?_
    refine V_getf fl_X1_25 dX1_isMarkRead_16 (hp11 hA) rfl ?_
    refine V_cald9 dX1_isMarkRead_19 (hp12 hA) nr_2 (by omega) (by decide) (congrArg Value.int (congrFun (congrFun (nr_a (by decide)) 0) _)) ?_
    refine V_iload_n (i := 1) dX1_isMarkRead_20 rfl rfl ?_
    refine V_icmp_eq (tgt := 26) dX1_isMarkRead_21 (by decide) (fun h21 => ?_) (fun h21 => ?_)
    · refine V_aload_n (i := 0) dX1_isMarkRead_26 rfl rfl ?_
      refine V_dup dX1_isMarkRead_27 rfl ?_
      refine V_getf fl_X1_25 dX1_isMarkRead_28 (hp11 hA) rfl ?_
      refine V_iconst (v := 1) dX1_isMarkRead_31 (by decide) ?_
      refine V_iadd dX1_isMarkRead_32 ?_
      refine VNp (q := p + 1) fl_X1_25 dX1_isMarkRead_33 hA (by rw [nr_2]; exact nI_1 p) ?_
      refine V_iconst (v := 1) dX1_isMarkRead_36 (by decide) ?_
      refine V_zret dX1_isMarkRead_37 rfl (by first | rfl | exact bi_n _) (Nat.le_of_ble_eq_true rfl) (Nat.le_of_ble_eq_true rfl) ?_
      first
        | (rw [show pMark (σ.1 12 0) n p c = true from by simp [pMark, *]]; exact ⟨rfl, rfl⟩)
        | (rw [show pMark (σ.1 12 0) n p c = false from by simp [pMark, *]]; exact ⟨rfl, rfl⟩)
    · refine V_iconst (v := 0) dX1_isMarkRead_24 (by decide) ?_
      refine V_zret dX1_isMarkRead_25 rfl (by first | rfl | exact bi_n _) (Nat.le_of_ble_eq_true rfl) (Nat.le_of_ble_eq_true rfl) ?_
      first
        | (rw [show pMark (σ.1 12 0) n p c = true from by simp [pMark, *]]; exact ⟨rfl, rfl⟩)
        | (rw [show pMark (σ.1 12 0) n p c = false from by simp [pMark, *]]; exact ⟨rfl, rfl⟩)

set_option maxHeartbeats 4000000 in
set_option maxRecDepth 100000 in
theorem t_X1_isNumberRead {D : va_G} {s0 : State} {l : Launch} {B : Nat} {A : AT} {σ : Sg} (hA : AOK B A) {n p : Nat} {v : Int32} (hn : σ.1 11 0 0 = nI n) (hn6 : n ≤ 60) (hp61 : p < 990) {m : Nat} (hm : m ≤ 2) : Tri D s0 l yX1_isNumberRead cX1_isNumberRead 3 ((some .boolean)) 1 0 0 [.ref (A 11 0 0), .int (nI m)] (HP A (nrS σ p v)) (fun r G' => r = some (.int (bi (decide (¬ (pNum (σ.1 12 0) n m p 0).1 = p) || decide (m = 0)))) ∧ G' = HP A (nrS σ (pNum (σ.1 12 0) n m p 0).1 (pNum (σ.1 12 0) n m p 0).2)) noX := by
  refine Tri.ofV (own := RX1) (mn := "isNumberRead") (by decide +kernel) rfl rfl (Nat.le_of_ble_eq_true rfl) ?_
  have loop : ∀ (r i : Nat) (w : Int32), i + r = m → pNum (σ.1 12 0) n r (p + i) w = pNum (σ.1 12 0) n m p 0 → V D s0 RX1 "isNumberRead" cX1_isNumberRead 3 ((some .boolean)) [] l (rmd 1 0 0) (Zm D s0 0 0 (fun r G' => r = some (.int (bi (decide (¬ (pNum (σ.1 12 0) n m p 0).1 = p) || decide (m = 0)))) ∧ G' = HP A (nrS σ (pNum (σ.1 12 0) n m p 0).1 (pNum (σ.1 12 0) n m p 0).2)) noX) 7 [(0, .ref (A 11 0 0)), (1, .int (nI m)), (2, .int (nI i))] [] (HP A (nrS σ (p + i) w)) 0 0 := by
    intro r
    induction r with
    | zero =>
      intro i w hi9 he
      have e1 : (pNum (σ.1 12 0) n m p 0) = (p + i, w) := he.symm
      obtain rfl : i = m := by omega
      refine V_iload_n (i := 2) dX1_isNumberRead_7 rfl rfl ?_
      refine V_iload_n (i := 1) dX1_isNumberRead_8 rfl rfl ?_
      refine V_icmp_ge (tgt := 59) dX1_isNumberRead_9 (by decide) (fun _ => ?_) (fun h9 => by first | exact absurd (nI_le (Nat.le_refl _) (by omega)) h9 | exact absurd h9 (nI_le (Nat.le_refl _) (by omega)))
      refine V_iload_n (i := 2) dX1_isNumberRead_59 rfl rfl ?_
      refine V_if_gt (tgt := 67) dX1_isNumberRead_60 (by decide) (fun h60 => ?_) (fun h60 => ?_)
      · refine V_iconst (v := 1) dX1_isNumberRead_67 (by decide) ?_
        refine V_goto (tgt := 72) dX1_isNumberRead_68 (by decide) ?_
        refine V_zret dX1_isNumberRead_72 rfl (by first | rfl | exact bi_n _) (Nat.le_of_ble_eq_true rfl) (Nat.le_of_ble_eq_true rfl) ?_
        rw [e1]
        refine ⟨congrArg (fun z => some (Value.int z)) ?_, rfl⟩
        by_cases z : i = 0
        · subst z
          first
            | exact absurd h60 (by decide)
            | exact absurd rfl h64
            | simp [bi]
        · have z2 : 0 < i := by omega
          first
            | (simp [bi, z]; done)
            | exact absurd ((nI_ltI (a := 0) (by decide) (by omega)).mpr z2) h60
      · refine V_iload_n (i := 1) dX1_isNumberRead_63 rfl rfl ?_
        refine V_if_ne (tgt := 71) dX1_isNumberRead_64 (by decide) (fun h64 => ?_) (fun h64 => ?_)
        · refine V_iconst (v := 0) dX1_isNumberRead_71 (by decide) ?_
          refine V_zret dX1_isNumberRead_72 rfl (by first | rfl | exact bi_n _) (Nat.le_of_ble_eq_true rfl) (Nat.le_of_ble_eq_true rfl) ?_
          rw [e1]
          refine ⟨congrArg (fun z => some (Value.int z)) ?_, rfl⟩
          by_cases z : i = 0
          · subst z
            first
              | exact absurd h60 (by decide)
              | exact absurd rfl h64
              | simp [bi]
          · have z2 : 0 < i := by omega
            first
              | (simp [bi, z]; done)
              | exact absurd ((nI_ltI (a := 0) (by decide) (by omega)).mpr z2) h60
        · refine V_iconst (v := 1) dX1_isNumberRead_67 (by decide) ?_
          refine V_goto (tgt := 72) dX1_isNumberRead_68 (by decide) ?_
          refine V_zret dX1_isNumberRead_72 rfl (by first | rfl | exact bi_n _) (Nat.le_of_ble_eq_true rfl) (Nat.le_of_ble_eq_true rfl) ?_
          rw [e1]
          refine ⟨congrArg (fun z => some (Value.int z)) ?_, rfl⟩
          by_cases z : i = 0
          · subst z
            first
              | exact absurd h60 (by decide)
              | exact absurd rfl h64
              | simp [bi]
          · have z2 : 0 < i := by omega
            first
              | (simp [bi, z]; done)
              | exact absurd ((nI_ltI (a := 0) (by decide) (by omega)).mpr z2) h60
    | succ r ih =>
      intro i w hi9 he
      have hlt : p + i < 1000 := by omega
      refine V_iload_n (i := 2) dX1_isNumberRead_7 rfl rfl ?_
      refine V_iload_n (i := 1) dX1_isNumberRead_8 rfl rfl ?_
      refine V_icmp_ge (tgt := 59) dX1_isNumberRead_9 (by decide) (fun h9 => by first | exact absurd h9 (nI_ge (by omega) (by omega)) | exact absurd (nI_ge (by omega) (by omega)) h9) (fun _ => ?_)
      refine V_aload_n (i := 0) dX1_isNumberRead_12 rfl rfl ?_
      refine Cv1_0 (d := 1) cv_X1_67 dX1_isNumberRead_13 (t_X1_isDigitNext hA hn hn6 (by omega)) (hp11 hA) rfl rfl (Nat.le_of_ble_eq_true rfl) ⟨Nat.le_refl _, Nat.le_refl _⟩ (by decide) ⟨Nat.le_of_ble_eq_true rfl, Nat.le_of_ble_eq_true rfl⟩ ?_
      refine V_if_eq (tgt := 59) dX1_isNumberRead_16 (by decide) (fun h16 => ?_) (fun h16 => ?_)
      · replace h16 := bi_0.mp h16
        refine V_iload_n (i := 2) dX1_isNumberRead_59 rfl rfl ?_
        refine V_if_gt (tgt := 67) dX1_isNumberRead_60 (by decide) (fun h60 => ?_) (fun h60 => ?_)
        · refine V_iconst (v := 1) dX1_isNumberRead_67 (by decide) ?_
          refine V_goto (tgt := 72) dX1_isNumberRead_68 (by decide) ?_
          refine V_zret dX1_isNumberRead_72 rfl (by first | rfl | exact bi_n _) (Nat.le_of_ble_eq_true rfl) (Nat.le_of_ble_eq_true rfl) ?_
          have e1 : (pNum (σ.1 12 0) n m p 0) = (p + i, w) := by
            rw [← he, pNum, h16]
            rfl
          rw [e1]
          refine ⟨congrArg (fun z => some (Value.int z)) ?_, rfl⟩
          by_cases z : i = 0
          · subst z
            first
              | exact absurd h60 (by decide)
              | (have z2 : m = 0 := (nI_eq (by omega) (by decide)).mp h64; omega)
              | (have z2 : ¬ m = 0 := by omega
                 simp [bi, z2]; done)
          · have z2 : 0 < i := by omega
            first
              | (simp [bi, z]; done)
              | exact absurd ((nI_ltI (a := 0) (by decide) (by omega)).mpr z2) h60
        · refine V_iload_n (i := 1) dX1_isNumberRead_63 rfl rfl ?_
          refine V_if_ne (tgt := 71) dX1_isNumberRead_64 (by decide) (fun h64 => ?_) (fun h64 => ?_)
          · refine V_iconst (v := 0) dX1_isNumberRead_71 (by decide) ?_
            refine V_zret dX1_isNumberRead_72 rfl (by first | rfl | exact bi_n _) (Nat.le_of_ble_eq_true rfl) (Nat.le_of_ble_eq_true rfl) ?_
            have e1 : (pNum (σ.1 12 0) n m p 0) = (p + i, w) := by
              rw [← he, pNum, h16]
              rfl
            rw [e1]
            refine ⟨congrArg (fun z => some (Value.int z)) ?_, rfl⟩
            by_cases z : i = 0
            · subst z
              first
                | exact absurd h60 (by decide)
                | (have z2 : m = 0 := (nI_eq (by omega) (by decide)).mp h64; omega)
                | (have z2 : ¬ m = 0 := by omega
                   simp [bi, z2]; done)
            · have z2 : 0 < i := by omega
              first
                | (simp [bi, z]; done)
                | exact absurd ((nI_ltI (a := 0) (by decide) (by omega)).mpr z2) h60
          · refine V_iconst (v := 1) dX1_isNumberRead_67 (by decide) ?_
            refine V_goto (tgt := 72) dX1_isNumberRead_68 (by decide) ?_
            refine V_zret dX1_isNumberRead_72 rfl (by first | rfl | exact bi_n _) (Nat.le_of_ble_eq_true rfl) (Nat.le_of_ble_eq_true rfl) ?_
            have e1 : (pNum (σ.1 12 0) n m p 0) = (p + i, w) := by
              rw [← he, pNum, h16]
              rfl
            rw [e1]
            refine ⟨congrArg (fun z => some (Value.int z)) ?_, rfl⟩
            by_cases z : i = 0
            · subst z
              first
                | exact absurd h60 (by decide)
                | (have z2 : m = 0 := (nI_eq (by omega) (by decide)).mp h64; omega)
                | (have z2 : ¬ m = 0 := by omega
                   simp [bi, z2]; done)
            · have z2 : 0 < i := by omega
              first
                | (simp [bi, z]; done)
                | exact absurd ((nI_ltI (a := 0) (by decide) (by omega)).mpr z2) h60
      · replace h16 := bi_1.mp h16
        have hd := h16
        simp only [dgt, Bool.and_eq_true, decide_eq_true_eq] at hd
        rw [pNum, if_pos h16] at he
        refine V_aload_n (i := 0) dX1_isNumberRead_19 rfl rfl ?_
        refine V_bipush (v := 10) dX1_isNumberRead_20 (by decide) ?_
        refine V_aload_n (i := 0) dX1_isNumberRead_22 rfl rfl ?_
        refine V_getf fl_X1_61 dX1_isNumberRead_23 (hp11 hA) rfl ?_
        refine V_imul dX1_isNumberRead_26 ?_
        refine V_aload_n (i := 0) dX1_isNumberRead_27 rfl rfl ?_
        refine V_getf fl_X1_9 dX1_isNumberRead_28 (hp11 hA) rfl ?_
        refine V_aload_n (i := 0) dX1_isNumberRead_31 rfl rfl ?_
        refine V_getf fl_X1_25 dX1_isNumberRead_32 (hp11 hA) rfl ?_
        refine V_cald9 dX1_isNumberRead_35 (hp12 hA) nr_2 (by omega) (by decide) (congrArg Value.int (congrFun (congrFun (nr_a (by decide)) 0) _)) ?_
        refine V_iadd dX1_isNumberRead_36 ?_
        refine V_bipush (v := 48) dX1_isNumberRead_37 (by decide) ?_
        refine V_isub dX1_isNumberRead_39 ?_
        refine VNv fl_X1_61 dX1_isNumberRead_40 hA ?_
        rw [nr_3]
        refine V_aload_n (i := 0) dX1_isNumberRead_43 rfl rfl ?_
        refine V_dup dX1_isNumberRead_44 rfl ?_
        refine V_getf fl_X1_25 dX1_isNumberRead_45 (hp11 hA) rfl ?_
        refine V_iconst (v := 1) dX1_isNumberRead_48 (by decide) ?_
        refine V_iadd dX1_isNumberRead_49 ?_
        refine VNp (q := p + (i + 1)) fl_X1_25 dX1_isNumberRead_50 hA (by rw [nr_2]; exact nI_1 (p + i)) ?_
        refine V_iinc (i := 2) dX1_isNumberRead_53 rfl (inc1 _) (by decide) ?_
        refine V_goto (tgt := 7) dX1_isNumberRead_56 (by decide) ?_
        exact V.fin [1, 2, 0] rfl rfl (ih (i + 1) _ (by omega) he)
  refine V_aload_n (i := 0) dX1_isNumberRead_0 rfl rfl ?_
  refine V_iconst (v := 0) dX1_isNumberRead_1 (by decide) ?_
  refine VNv fl_X1_61 dX1_isNumberRead_2 hA ?_
  refine V_iconst (v := nI 0) dX1_isNumberRead_5 (by decide) ?_
  refine V_istore_n (i := 2) dX1_isNumberRead_6 rfl (by decide) ?_
  exact V.fin [1, 2, 0] rfl rfl (loop m 0 0 (by omega) rfl)

