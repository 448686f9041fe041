/-! the reference's questions -/
def tS (σ : Sg) (x : Int32) : Sg := w3 σ 20 0 6 x
theorem rs_t {σ : Sg} {P : Int32 × Int32} {u : Nat → Int32} {x : Int32} : w3 (rs σ P u) 20 0 6 x = rs (tS σ x) P u := by
  unfold rs wy tS
  refine Prod.ext (funext fun a => funext fun b => funext fun c => ?_) rfl
  unfold row w3
  dsimp only
  by_cases h1 : a = 20 ∧ b = 0 ∧ c = 6
  · have h2 : ¬ (a = 21 ∧ b = 0) := by omega
    have h3 : ¬ (a = 20 ∧ b = 0 ∧ c = 16) := by omega
    have h4 : ¬ (a = 20 ∧ b = 0 ∧ c = 15) := by omega
    simp only [if_pos h1, if_neg h2, if_neg h3, if_neg h4]
  · simp only [if_neg h1]
theorem rs_6 {σ : Sg} {P : Int32 × Int32} {u : Nat → Int32} {x : Int32} : (rs (tS σ x) P u).1 20 0 6 = x := (rs_f (by decide)).trans (w3_eq _ _ _ _ _)
theorem rs_g {σ : Sg} {P : Int32 × Int32} {u : Nat → Int32} {x : Int32} {f : Nat} (h : f < 15) (h6 : ¬ f = 6) : (rs (tS σ x) P u).1 20 0 f = σ.1 20 0 f := (rs_f h).trans (w3_ne (fun q => h6 q.2.2))
theorem rs_id {σ : Sg} : σ = rs σ (σ.1 20 0 15, σ.1 20 0 16) (σ.1 21 0) := by
  unfold rs wy
  refine Prod.ext (funext fun a => funext fun b => funext fun c => ?_) rfl
  unfold row w3
  dsimp only
  by_cases h1 : a = 21 ∧ b = 0
  · rw [if_pos h1, h1.1, h1.2]
  · rw [if_neg h1]
    by_cases h2 : a = 20 ∧ b = 0 ∧ c = 16
    · rw [if_pos h2, h2.1, h2.2.1, h2.2.2]
    · rw [if_neg h2]
      by_cases h3 : a = 20 ∧ b = 0 ∧ c = 15
      · rw [if_pos h3, h3.1, h3.2.1, h3.2.2]
      · rw [if_neg h3]
section VR3
variable {D : va_G} {s0 : State} {own mn : String} {cc : ByteArray} {nL : Nat} {ret : Option FieldType} {hh : List (Nat × Nat × Nat × Nat)} {l : Launch} {R : Room} {Z : ZT} {pc : Nat} {lo : List (Nat × Value)} {st : List Value} {cells slots : Nat} {B : Nat} {A : AT} {σ : Sg}
theorem VP6 {index : Nat} {x : Int32} {P : Int32 × Int32} {u : Nat → Int32} (hf : FL own index 8 6) (hdg : decode cc pc = .ok (.putfield index, 3)) (hA : AOK B A) (kk : V D s0 own mn cc nL ret hh l R Z (pc + 3) lo st (HP A (rs (tS σ x) P u)) cells slots) : V D s0 own mn cc nL ret hh l R Z pc lo (.int x :: .ref (A 20 0 0) :: st) (HP A (rs σ P u)) cells slots :=
  VP_20_6 hf hdg hA (V.eqG (congrArg (HP A) rs_t) kk)
end VR3
theorem kfin {A : AT} {σ : Sg} {K : KT} {P : Int32 × Int32} {u : Nat → Int32} {k : Nat} {x v : Int32} (e : K = (k, v)) (hx : nI k = x) : some (Value.int v) = some (.int K.2) ∧ HP A (rs (tS σ x) P u) = HP A (rs (tS σ (nI K.1)) P u) := by
  subst e
  subst hx
  exact ⟨rfl, rfl⟩
theorem kfin2 {A : AT} {σ : Sg} {K : KT} {k : Nat} {x v : Int32} (e : K = (k, v)) (hx : nI k = x) : some (Value.int v) = some (.int K.2) ∧ HP A (w3 σ 20 0 6 x) = HP A (w3 σ 20 0 6 (nI K.1)) := by
  subst e
  subst hx
  exact ⟨rfl, rfl⟩
def R_reach (u : Nat → Int32) : Int32 := if S_shoes u < 3 then u 3 else if u 1 < u 3 then u 3 else u 1
def R_may (w : Nat → Int32) (pl c : Nat) : Int32 :=
  if pl = 0 then 0 else if 12 < w (hx (pl - 1) 4) then 0 else if 8 < w (hx (pl - 1) 5) then 0 else S_mn (S_mn (S_mn 9 (w 4)) (w (hx (pl - 1) 3))) (S_mn (S_lets w (pl - 1)) (S_can w c (pl - 1)))
def KR_may (w : Nat → Int32) (nc pl : Nat) (x : Int32) : KT := if ob x 0 (nI nc - 1) = true then (1, 0) else (0, R_may w pl x.toNatClampNeg)
theorem pl_0 {x : Int32} {pl : Nat} (h3 : x = nI pl) (hp : pl ≤ 8) (q : x - 1 < 0) : pl = 0 := by
  by_cases z : pl = 0
  · exact z
  · rw [h3, show nI pl - 1 = nI (pl - 1) from pk_sub (a := pl) (b := 1) (by omega)] at q
    exact absurd q (nI_pos (by omega))
theorem S_st_inv {u : Nat → Int32} {h : Nat} : ∀ i, ((S_st u h i).1 = -1 ∧ (S_st u h i).2.1 = 0) ∨ ∃ b, b < i ∧ S_st u h i = (nI b, S_can u b h, u (kx b 2)) ∧ 0 < S_can u b h
  | 0 => Or.inl ⟨rfl, rfl⟩
  | i + 1 => by
    by_cases c : (S_st u h i).2.1 < S_can u i h ∨ ((¬ (S_st u h i).1 = -1 ∧ S_can u i h = (S_st u h i).2.1) ∧ u (kx i 2) < (S_st u h i).2.2)
    · rw [S_st_y c]
      refine Or.inr ⟨i, by omega, rfl, ?_⟩
      rcases S_st_inv (u := u) (h := h) i with ⟨e1, e2⟩ | ⟨b, hb, e, hp⟩
      · rcases c with c | c
        · rw [e2] at c
          exact c
        · exact absurd e1 c.1.1
      · rcases c with c | c
        · rw [e] at c
          exact Int32.lt_trans hp c
        · rw [c.1.2, e]
          exact hp
    · rw [S_st_n c]
      rcases S_st_inv (u := u) (h := h) i with q | ⟨b, hb, e, hp⟩
      · exact Or.inl q
      · exact Or.inr ⟨b, by omega, e, hp⟩
theorem sub0 {a b : Int32} : a - b = 0 ↔ a = b := by
  constructor
  · intro h
    have := congrArg (fun z => z + b) h
    simpa using this
  · intro h
    rw [h]
    exact Int32.sub_self _
theorem subp {p q : Nat} (hp : p < 1000) (hq : q < 1000) : 0 < nI p - nI q ↔ q < p := by
  rw [Int32.lt_iff_toInt_lt, pk_sub_toInt (by omega) (by omega)]
  have : (0 : Int32).toInt = 0 := by decide
  omega
theorem S_ahead_self {w : Nat → Int32} {i : Nat} : S_ahead w i i = false := by
  rw [S_ahead, if_pos rfl, if_pos rfl]
  simp
/-- the last of this rank -/
def R_fd (w : Nat → Int32) (nh : Nat) (x : Int32) : Nat → Int32
  | 0 => -1
  | i + 1 => if S_cnt w nh i = x then nI i else R_fd w nh x i
def KR_ranked (w : Nat → Int32) (nh : Nat) (x : Int32) : KT := if R_fd w nh x nh = -1 then (1, 0) else (0, R_fd w nh x nh)

set_option maxHeartbeats 4000000 in
set_option maxRecDepth 100000 in
theorem t_X8_houseOf {D : va_G} {s0 : State} {l : Launch} {B : Nat} {A : AT} {σ : Sg} (hA : AOK B A) {P : Int32 × Int32} {u : Nat → Int32} {nh : Nat} (h1 : u 1 = nI nh) (hn8 : nh ≤ 8) (hdo : ∀ h, h < 8 → u (hx h 1) = 0 ∨ u (hx h 1) = 1 ∨ u (hx h 1) = 2) (hbo : ∀ h, h < 8 → u (hx h 7) = 0 ∨ u (hx h 7) = 1) {x q : Int32} : Tri D s0 l yX8_houseOf cX8_houseOf 3 ((some .int)) 2 0 0 [.ref (A 20 0 0), .int x, .int q] (HP A (rs σ P u)) (fun r G' => r = some (.int (K_houseOf u nh x q).2) ∧ G' = HP A (rs (tS σ (nI (K_houseOf u nh x q).1)) P u)) noX := by
  refine Tri.ofV (own := RX8) (mn := "houseOf") (by decide +kernel) rfl rfl (Nat.le_of_ble_eq_true rfl) ?_
  refine V_aload_n (i := 0) dX8_houseOf_0 rfl rfl ?_
  refine V_aload_n (i := 0) dX8_houseOf_1 rfl rfl ?_
  refine V_iload_n (i := 1) dX8_houseOf_2 rfl rfl ?_
  refine Cv1_1 (d := 2) cv_X8_104 dX8_houseOf_3 (t_X8_isHouse hA h1) (hp20 hA) rfl rfl (Nat.le_of_ble_eq_true rfl) ⟨Nat.le_refl _, Nat.le_refl _⟩ (by decide) ⟨Nat.le_of_ble_eq_true rfl, Nat.le_of_ble_eq_true rfl⟩ ?_
  refine V_if_ne (tgt := 13) dX8_houseOf_6 (by decide) (fun h6 => ?_) (fun h6 => ?_)
  · replace h6 := bi_1.mp h6
    simp only [Bool.not_eq_true', Bool.not_eq_false'] at h6
    obtain ⟨j, hj, rfl⟩ := ob_ex (by omega) h6
    have hcj := nI_clamp (n := j) (by omega)
    refine V_iload_n (i := 2) dX8_houseOf_13 rfl rfl ?_
    refine V_iconst (v := 0) dX8_houseOf_14 (by decide) ?_
    refine V_bipush (v := 7) dX8_houseOf_15 (by decide) ?_
    refine Cs1_3 (d := 2) cs_X8_66 dX8_houseOf_17 (t_X8_isIn hA) (Nat.le_of_ble_eq_true rfl) ⟨Nat.le_refl _, Nat.le_refl _⟩ (by decide) ⟨Nat.le_of_ble_eq_true rfl, Nat.le_of_ble_eq_true rfl⟩ ?_
    refine V_if_ne (tgt := 27) dX8_houseOf_20 (by decide) (fun h20 => ?_) (fun h20 => ?_)
    · replace h20 := bi_1.mp h20
      simp only [Bool.not_eq_true', Bool.not_eq_false'] at h20
      obtain ⟨m, -, hm, rfl⟩ := ob_ex2 (a := 0) (b := 7) (by decide) (by decide) h20
      have hcm := nI_clamp (n := m) (by omega)
      refine V_iconst (v := 0) dX8_houseOf_27 (by decide) ?_
      refine VP6 fl_X8_38 dX8_houseOf_28 hA ?_
      refine V_aload_n (i := 0) dX8_houseOf_31 rfl rfl ?_
      refine V_getf fl_X8_38 dX8_houseOf_32 (hp20 hA) rfl ?_
      refine V_if_eq (tgt := 40) dX8_houseOf_35 (by decide) (fun _ => ?_) (fun h35 => by first | exact absurd ((by rw [rs_6]; decide)) h35 | exact absurd h35 ((by rw [rs_6]; decide)))
      refine V_iload_n (i := 2) dX8_houseOf_40 rfl rfl ?_
      refine V_bipush (v := nI 6) dX8_houseOf_41 (by decide) ?_
      refine V_icmp_ge (tgt := 55) dX8_houseOf_43 (by decide) (fun h43 => ?_) (fun h43 => ?_)
      · rw [nI_leI (by omega) (by omega)] at h43
        refine V_iload_n (i := 2) dX8_houseOf_55 rfl rfl ?_
        refine V_bipush (v := nI 6) dX8_houseOf_56 (by decide) ?_
        refine V_icmp_ne (tgt := 69) dX8_houseOf_58 (by decide) (fun h58 => ?_) (fun h58 => ?_)
        · rw [nI_eq (by omega) (by omega)] at h58
          obtain rfl : m = 7 := by omega
          refine V_aload_n (i := 0) dX8_houseOf_69 rfl rfl ?_
          refine V_iload_n (i := 1) dX8_houseOf_70 rfl rfl ?_
          refine V_bipush (v := nI 8) dX8_houseOf_71 (by decide) ?_
          refine Cv1_2 (d := 2) cv_X8_74 dX8_houseOf_73 (t_X8_of hA (by omega) (by decide)) (hp20 hA) rfl rfl (Nat.le_of_ble_eq_true rfl) ⟨Nat.le_refl _, Nat.le_refl _⟩ (by decide) ⟨Nat.le_of_ble_eq_true rfl, Nat.le_of_ble_eq_true rfl⟩ ?_
          refine V_iret dX8_houseOf_76 rfl (Nat.le_of_ble_eq_true rfl) (Nat.le_of_ble_eq_true rfl) ?_
          refine kfin ?_ rfl
          first
            | (simp [K_houseOf, S_hnum, *]; done)
            | (simp [K_houseOf, S_hnum, *]; omega)
            | (have e6 : ¬ m = 6 := by omega
               have e7 : ¬ m = 7 := by omega
               simp [K_houseOf, S_hnum, h6, h20, hcj, hcm, e6, e7])
        · rw [nI_eq (by omega) (by omega)] at h58
          subst h58
          refine V_aload_n (i := 0) dX8_houseOf_61 rfl rfl ?_
          refine V_iload_n (i := 1) dX8_houseOf_62 rfl rfl ?_
          refine Cv1_1 (d := 2) cv_X8_111 dX8_houseOf_63 (t_X8_lets hA (by omega) (hdo j (by omega)) (hbo j (by omega))) (hp20 hA) rfl rfl (Nat.le_of_ble_eq_true rfl) ⟨Nat.le_refl _, Nat.le_refl _⟩ (by decide) ⟨Nat.le_of_ble_eq_true rfl, Nat.le_of_ble_eq_true rfl⟩ ?_
          refine V_goto (tgt := 76) dX8_houseOf_66 (by decide) ?_
          refine V_iret dX8_houseOf_76 rfl (Nat.le_of_ble_eq_true rfl) (Nat.le_of_ble_eq_true rfl) ?_
          refine kfin ?_ rfl
          first
            | (simp [K_houseOf, S_hnum, *]; done)
            | (simp [K_houseOf, S_hnum, *]; omega)
            | (have e6 : ¬ m = 6 := by omega
               have e7 : ¬ m = 7 := by omega
               simp [K_houseOf, S_hnum, h6, h20, hcj, hcm, e6, e7])
      · rw [nI_leI (by omega) (by omega)] at h43
        refine V_aload_n (i := 0) dX8_houseOf_46 rfl rfl ?_
        refine V_iload_n (i := 1) dX8_houseOf_47 rfl rfl ?_
        refine V_iload_n (i := 2) dX8_houseOf_48 rfl rfl ?_
        refine Cv1_2 (d := 2) cv_X8_74 dX8_houseOf_49 (t_X8_of hA (by omega) (by omega)) (hp20 hA) rfl rfl (Nat.le_of_ble_eq_true rfl) ⟨Nat.le_refl _, Nat.le_refl _⟩ (by decide) ⟨Nat.le_of_ble_eq_true rfl, Nat.le_of_ble_eq_true rfl⟩ ?_
        refine V_goto (tgt := 76) dX8_houseOf_52 (by decide) ?_
        refine V_iret dX8_houseOf_76 rfl (Nat.le_of_ble_eq_true rfl) (Nat.le_of_ble_eq_true rfl) ?_
        refine kfin ?_ rfl
        first
          | (simp [K_houseOf, S_hnum, *]; done)
          | (simp [K_houseOf, S_hnum, *]; omega)
          | (have e6 : ¬ m = 6 := by omega
             have e7 : ¬ m = 7 := by omega
             simp [K_houseOf, S_hnum, h6, h20, hcj, hcm, e6, e7])
    · replace h20 := bi_0.mp h20
      simp only [Bool.not_eq_true', Bool.not_eq_false'] at h20
      refine V_iconst (v := 2) dX8_houseOf_23 (by decide) ?_
      refine V_goto (tgt := 28) dX8_houseOf_24 (by decide) ?_
      refine VP6 fl_X8_38 dX8_houseOf_28 hA ?_
      refine V_aload_n (i := 0) dX8_houseOf_31 rfl rfl ?_
      refine V_getf fl_X8_38 dX8_houseOf_32 (hp20 hA) rfl ?_
      refine V_if_eq (tgt := 40) dX8_houseOf_35 (by decide) (fun h35 => by first | exact absurd h35 ((by rw [rs_6]; decide)) | exact absurd ((by rw [rs_6]; decide)) h35) (fun _ => ?_)
      refine V_iconst (v := 0) dX8_houseOf_38 (by decide) ?_
      refine V_iret dX8_houseOf_39 rfl (Nat.le_of_ble_eq_true rfl) (Nat.le_of_ble_eq_true rfl) ?_
      refine kfin ?_ rfl
      first
        | (simp [K_houseOf, S_hnum, *]; done)
        | (simp [K_houseOf, S_hnum, *]; omega)
        | (have e6 : ¬ m = 6 := by omega
           have e7 : ¬ m = 7 := by omega
           simp [K_houseOf, S_hnum, h6, h20, hcj, hcm, e6, e7])
  · replace h6 := bi_0.mp h6
    simp only [Bool.not_eq_true', Bool.not_eq_false'] at h6
    refine V_iconst (v := 1) dX8_houseOf_9 (by decide) ?_
    refine V_goto (tgt := 28) dX8_houseOf_10 (by decide) ?_
    refine VP6 fl_X8_38 dX8_houseOf_28 hA ?_
    refine V_aload_n (i := 0) dX8_houseOf_31 rfl rfl ?_
    refine V_getf fl_X8_38 dX8_houseOf_32 (hp20 hA) rfl ?_
    refine V_if_eq (tgt := 40) dX8_houseOf_35 (by decide) (fun h35 => by first | exact absurd h35 ((by rw [rs_6]; decide)) | exact absurd ((by rw [rs_6]; decide)) h35) (fun _ => ?_)
    refine V_iconst (v := 0) dX8_houseOf_38 (by decide) ?_
    refine V_iret dX8_houseOf_39 rfl (Nat.le_of_ble_eq_true rfl) (Nat.le_of_ble_eq_true rfl) ?_
    refine kfin ?_ rfl
    first
      | (simp [K_houseOf, S_hnum, *]; done)
      | (simp [K_houseOf, S_hnum, *]; omega)
      | (have e6 : ¬ m = 6 := by omega
         have e7 : ¬ m = 7 := by omega
         simp [K_houseOf, S_hnum, h6, h20, hcj, hcm, e6, e7])

set_option maxHeartbeats 4000000 in
set_option maxRecDepth 100000 in
theorem t_X8_carrierOf {D : va_G} {s0 : State} {l : Launch} {B : Nat} {A : AT} {σ : Sg} (hA : AOK B A) {P : Int32 × Int32} {u : Nat → Int32} {nc : Nat} (h2 : u 2 = nI nc) (hm : nc ≤ 4) {x q : Int32} : Tri D s0 l yX8_carrierOf cX8_carrierOf 3 ((some .int)) 2 0 0 [.ref (A 20 0 0), .int x, .int q] (HP A (rs σ P u)) (fun r G' => r = some (.int (K_carrierOf u nc x q).2) ∧ G' = HP A (rs (tS σ (nI (K_carrierOf u nc x q).1)) P u)) noX := by
  refine Tri.ofV (own := RX8) (mn := "carrierOf") (by decide +kernel) rfl rfl (Nat.le_of_ble_eq_true rfl) ?_
  refine V_aload_n (i := 0) dX8_carrierOf_0 rfl rfl ?_
  refine V_aload_n (i := 0) dX8_carrierOf_1 rfl rfl ?_
  refine V_iload_n (i := 1) dX8_carrierOf_2 rfl rfl ?_
  refine Cv1_1 (d := 2) cv_X8_115 dX8_carrierOf_3 (t_X8_isCarrier hA h2) (hp20 hA) rfl rfl (Nat.le_of_ble_eq_true rfl) ⟨Nat.le_refl _, Nat.le_refl _⟩ (by decide) ⟨Nat.le_of_ble_eq_true rfl, Nat.le_of_ble_eq_true rfl⟩ ?_
  refine V_if_ne (tgt := 13) dX8_carrierOf_6 (by decide) (fun h6 => ?_) (fun h6 => ?_)
  · replace h6 := bi_1.mp h6
    simp only [Bool.not_eq_true', Bool.not_eq_false'] at h6
    obtain ⟨j, hj, rfl⟩ := ob_ex (by omega) h6
    have hcj := nI_clamp (n := j) (by omega)
    refine V_iload_n (i := 2) dX8_carrierOf_13 rfl rfl ?_
    refine V_iconst (v := 0) dX8_carrierOf_14 (by decide) ?_
    refine V_iconst (v := 3) dX8_carrierOf_15 (by decide) ?_
    refine Cs1_3 (d := 2) cs_X8_66 dX8_carrierOf_16 (t_X8_isIn hA) (Nat.le_of_ble_eq_true rfl) ⟨Nat.le_refl _, Nat.le_refl _⟩ (by decide) ⟨Nat.le_of_ble_eq_true rfl, Nat.le_of_ble_eq_true rfl⟩ ?_
    refine V_if_ne (tgt := 26) dX8_carrierOf_19 (by decide) (fun h19 => ?_) (fun h19 => ?_)
    · replace h19 := bi_1.mp h19
      simp only [Bool.not_eq_true', Bool.not_eq_false'] at h19
      obtain ⟨m, -, hm, rfl⟩ := ob_ex2 (a := 0) (b := 3) (by decide) (by decide) h19
      have hcm := nI_clamp (n := m) (by omega)
      refine V_iconst (v := 0) dX8_carrierOf_26 (by decide) ?_
      refine VP6 fl_X8_38 dX8_carrierOf_27 hA ?_
      refine V_aload_n (i := 0) dX8_carrierOf_30 rfl rfl ?_
      refine V_getf fl_X8_38 dX8_carrierOf_31 (hp20 hA) rfl ?_
      refine V_if_ne (tgt := 46) dX8_carrierOf_34 (by decide) (fun h34 => by first | exact absurd h34 ((by rw [rs_6]; decide)) | exact absurd ((by rw [rs_6]; decide)) h34) (fun _ => ?_)
      refine V_aload_n (i := 0) dX8_carrierOf_37 rfl rfl ?_
      refine V_iload_n (i := 1) dX8_carrierOf_38 rfl rfl ?_
      refine V_iload_n (i := 2) dX8_carrierOf_39 rfl rfl ?_
      refine Cv1_2 (d := 2) cv_X8_83 dX8_carrierOf_40 (t_X8_ofCarrier hA (by omega) (by omega)) (hp20 hA) rfl rfl (Nat.le_of_ble_eq_true rfl) ⟨Nat.le_refl _, Nat.le_refl _⟩ (by decide) ⟨Nat.le_of_ble_eq_true rfl, Nat.le_of_ble_eq_true rfl⟩ ?_
      refine V_goto (tgt := 47) dX8_carrierOf_43 (by decide) ?_
      refine V_iret dX8_carrierOf_47 rfl (Nat.le_of_ble_eq_true rfl) (Nat.le_of_ble_eq_true rfl) ?_
      refine kfin ?_ rfl
      first
        | (simp [K_carrierOf, *]; done)
        | (simp_all [K_carrierOf]; done)
    · replace h19 := bi_0.mp h19
      simp only [Bool.not_eq_true', Bool.not_eq_false'] at h19
      refine V_iconst (v := 2) dX8_carrierOf_22 (by decide) ?_
      refine V_goto (tgt := 27) dX8_carrierOf_23 (by decide) ?_
      refine VP6 fl_X8_38 dX8_carrierOf_27 hA ?_
      refine V_aload_n (i := 0) dX8_carrierOf_30 rfl rfl ?_
      refine V_getf fl_X8_38 dX8_carrierOf_31 (hp20 hA) rfl ?_
      refine V_if_ne (tgt := 46) dX8_carrierOf_34 (by decide) (fun _ => ?_) (fun h34 => by first | exact absurd ((by rw [rs_6]; decide)) h34 | exact absurd h34 ((by rw [rs_6]; decide)))
      refine V_iconst (v := 0) dX8_carrierOf_46 (by decide) ?_
      refine V_iret dX8_carrierOf_47 rfl (Nat.le_of_ble_eq_true rfl) (Nat.le_of_ble_eq_true rfl) ?_
      refine kfin ?_ rfl
      first
        | (simp [K_carrierOf, *]; done)
        | (simp_all [K_carrierOf]; done)
  · replace h6 := bi_0.mp h6
    simp only [Bool.not_eq_true', Bool.not_eq_false'] at h6
    refine V_iconst (v := 1) dX8_carrierOf_9 (by decide) ?_
    refine V_goto (tgt := 27) dX8_carrierOf_10 (by decide) ?_
    refine VP6 fl_X8_38 dX8_carrierOf_27 hA ?_
    refine V_aload_n (i := 0) dX8_carrierOf_30 rfl rfl ?_
    refine V_getf fl_X8_38 dX8_carrierOf_31 (hp20 hA) rfl ?_
    refine V_if_ne (tgt := 46) dX8_carrierOf_34 (by decide) (fun _ => ?_) (fun h34 => by first | exact absurd ((by rw [rs_6]; decide)) h34 | exact absurd h34 ((by rw [rs_6]; decide)))
    refine V_iconst (v := 0) dX8_carrierOf_46 (by decide) ?_
    refine V_iret dX8_carrierOf_47 rfl (Nat.le_of_ble_eq_true rfl) (Nat.le_of_ble_eq_true rfl) ?_
    refine kfin ?_ rfl
    first
      | (simp [K_carrierOf, *]; done)
      | (simp_all [K_carrierOf]; done)

set_option maxHeartbeats 4000000 in
set_option maxRecDepth 100000 in
theorem t_X8_shoeOf {D : va_G} {s0 : State} {l : Launch} {B : Nat} {A : AT} {σ : Sg} (hA : AOK B A) {P : Int32 × Int32} {u : Nat → Int32} {x : Int32} : Tri D s0 l yX8_shoeOf cX8_shoeOf 2 ((some .int)) 2 0 0 [.ref (A 20 0 0), .int x] (HP A (rs σ P u)) (fun r G' => r = some (.int (K_shoeOf u x).2) ∧ G' = HP A (rs (tS σ (nI (K_shoeOf u x).1)) P u)) noX := by
  refine Tri.ofV (own := RX8) (mn := "shoeOf") (by decide +kernel) rfl rfl (Nat.le_of_ble_eq_true rfl) ?_
  refine V_aload_n (i := 0) dX8_shoeOf_0 rfl rfl ?_
  refine V_iload_n (i := 1) dX8_shoeOf_1 rfl rfl ?_
  refine Cs1_1 (d := 2) cs_X8_131 dX8_shoeOf_2 (t_X8_isShoe hA) (Nat.le_of_ble_eq_true rfl) ⟨Nat.le_refl _, Nat.le_refl _⟩ (by decide) ⟨Nat.le_of_ble_eq_true rfl, Nat.le_of_ble_eq_true rfl⟩ ?_
  refine V_if_eq (tgt := 12) dX8_shoeOf_5 (by decide) (fun h5 => ?_) (fun h5 => ?_)
  · replace h5 := bi_0.mp h5
    simp only [Bool.not_eq_true', Bool.not_eq_false'] at h5
    refine V_iconst (v := 1) dX8_shoeOf_12 (by decide) ?_
    refine VP6 fl_X8_38 dX8_shoeOf_13 hA ?_
    refine V_aload_n (i := 0) dX8_shoeOf_16 rfl rfl ?_
    refine V_getf fl_X8_38 dX8_shoeOf_17 (hp20 hA) rfl ?_
    refine V_if_ne (tgt := 35) dX8_shoeOf_20 (by decide) (fun _ => ?_) (fun h20 => by first | exact absurd ((by rw [rs_6]; decide)) h20 | exact absurd h20 ((by rw [rs_6]; decide)))
    refine V_iconst (v := 0) dX8_shoeOf_35 (by decide) ?_
    refine V_iret dX8_shoeOf_36 rfl (Nat.le_of_ble_eq_true rfl) (Nat.le_of_ble_eq_true rfl) ?_
    refine kfin ?_ rfl
    first
      | (simp [K_shoeOf, *]; done)
      | (simp_all [K_shoeOf]; done)
  · replace h5 := bi_1.mp h5
    simp only [Bool.not_eq_true', Bool.not_eq_false'] at h5
    obtain ⟨m, -, hm, rfl⟩ := ob_ex2 (a := 0) (b := 3) (by decide) (by decide) h5
    have hcm := nI_clamp (n := m) (by omega)
    refine V_iconst (v := 0) dX8_shoeOf_8 (by decide) ?_
    refine V_goto (tgt := 13) dX8_shoeOf_9 (by decide) ?_
    refine VP6 fl_X8_38 dX8_shoeOf_13 hA ?_
    refine V_aload_n (i := 0) dX8_shoeOf_16 rfl rfl ?_
    refine V_getf fl_X8_38 dX8_shoeOf_17 (hp20 hA) rfl ?_
    refine V_if_ne (tgt := 35) dX8_shoeOf_20 (by decide) (fun h20 => by first | exact absurd h20 ((by rw [rs_6]; decide)) | exact absurd ((by rw [rs_6]; decide)) h20) (fun _ => ?_)
    refine V_aload_n (i := 0) dX8_shoeOf_23 rfl rfl ?_
    refine V_getf fl_X8_9 dX8_shoeOf_24 (hp20 hA) rfl ?_
    refine V_bipush (v := nI 10) dX8_shoeOf_27 (by decide) ?_
    refine V_iload_n (i := 1) dX8_shoeOf_29 rfl rfl ?_
    refine V_iadd dX8_shoeOf_30 ?_
    refine VL_21 dX8_shoeOf_31 hA (nI_add _ _) (by omega) ?_
    refine V_goto (tgt := 36) dX8_shoeOf_32 (by decide) ?_
    refine V_iret dX8_shoeOf_36 rfl (Nat.le_of_ble_eq_true rfl) (Nat.le_of_ble_eq_true rfl) ?_
    refine kfin ?_ rfl
    first
      | (simp [K_shoeOf, *]; done)
      | (simp_all [K_shoeOf]; done)

set_option maxHeartbeats 4000000 in
set_option maxRecDepth 100000 in
theorem t_X8_reach {D : va_G} {s0 : State} {l : Launch} {B : Nat} {A : AT} {σ : Sg} (hA : AOK B A) {P : Int32 × Int32} {u : Nat → Int32} : Tri D s0 l yX8_reach cX8_reach 1 ((some .int)) 1 0 0 [.ref (A 20 0 0)] (HP A (rs σ P u)) (fun r G' => r = some (.int (R_reach u)) ∧ G' = HP A (rs (tS σ 0) P u)) noX := by
  refine Tri.ofV (own := RX8) (mn := "reach") (by decide +kernel) rfl rfl (Nat.le_of_ble_eq_true rfl) ?_
  refine V_aload_n (i := 0) dX8_reach_0 rfl rfl ?_
  refine V_iconst (v := 0) dX8_reach_1 (by decide) ?_
  refine VP6 fl_X8_38 dX8_reach_2 hA ?_
  refine V_aload_n (i := 0) dX8_reach_5 rfl rfl ?_
  refine Cv1_0 (d := 1) cv_X8_121 dX8_reach_6 (t_X8_shoes hA) (hp20 hA) rfl rfl (Nat.le_of_ble_eq_true rfl) ⟨Nat.le_refl _, Nat.le_refl _⟩ (by decide) ⟨Nat.le_of_ble_eq_true rfl, Nat.le_of_ble_eq_true rfl⟩ ?_
  refine V_iconst (v := 3) dX8_reach_9 (by decide) ?_
  refine V_icmp_lt (tgt := 31) dX8_reach_10 (by decide) (fun h10 => ?_) (fun h10 => ?_)
  · refine V_aload_n (i := 0) dX8_reach_31 rfl rfl ?_
    refine V_getf fl_X8_9 dX8_reach_32 (hp20 hA) rfl ?_
    refine V_iconst (v := nI 3) dX8_reach_35 (by decide) ?_
    refine VL_21 dX8_reach_36 hA rfl (by omega) ?_
    refine V_iret dX8_reach_37 rfl (Nat.le_of_ble_eq_true rfl) (Nat.le_of_ble_eq_true rfl) ?_
    refine ⟨congrArg (fun z => some (Value.int z)) ?_, rfl⟩
    first | rw [R_reach, if_pos h10] | rw [R_reach, if_neg h10]
  · refine V_aload_n (i := 0) dX8_reach_13 rfl rfl ?_
    refine V_getf fl_X8_9 dX8_reach_14 (hp20 hA) rfl ?_
    refine V_iconst (v := nI 1) dX8_reach_17 (by decide) ?_
    refine VL_21 dX8_reach_18 hA rfl (by omega) ?_
    refine V_aload_n (i := 0) dX8_reach_19 rfl rfl ?_
    refine V_getf fl_X8_9 dX8_reach_20 (hp20 hA) rfl ?_
    refine V_iconst (v := nI 3) dX8_reach_23 (by decide) ?_
    refine VL_21 dX8_reach_24 hA rfl (by omega) ?_
    refine V_mmax cm_X8_78 dX8_reach_25 (Nat.le_of_ble_eq_true rfl) (Nat.le_of_ble_eq_true rfl) (Nat.le_of_ble_eq_true rfl) (Nat.le_of_ble_eq_true rfl) ?_
    refine V_goto (tgt := 37) dX8_reach_28 (by decide) ?_
    refine V_iret dX8_reach_37 rfl (Nat.le_of_ble_eq_true rfl) (Nat.le_of_ble_eq_true rfl) ?_
    refine ⟨congrArg (fun z => some (Value.int z)) ?_, rfl⟩
    first | rw [R_reach, if_pos h10] | rw [R_reach, if_neg h10]

set_option maxHeartbeats 4000000 in
set_option maxRecDepth 100000 in
theorem t_X8_tires {D : va_G} {s0 : State} {l : Launch} {B : Nat} {A : AT} {σ : Sg} (hA : AOK B A) {P : Int32 × Int32} {u : Nat → Int32} {nh : Nat} (h1 : u 1 = nI nh) (hn8 : nh ≤ 8) {nc : Nat} (h2 : u 2 = nI nc) (hm : nc ≤ 4) (hst : ∀ c, c < nc → 0 < 5 + u (kx c 0)) (hti : ∀ c h, c < nc → h < 8 → 0 < S_tired u c h) {x y : Int32} : Tri D s0 l yX8_tires cX8_tires 3 ((some .int)) 2 0 0 [.ref (A 20 0 0), .int x, .int y] (HP A (rs σ P u)) (fun r G' => r = some (.int (K_tires u nh nc x y).2) ∧ G' = HP A (rs (tS σ (nI (K_tires u nh nc x y).1)) P u)) noX := by
  refine Tri.ofV (own := RX8) (mn := "tires") (by decide +kernel) rfl rfl (Nat.le_of_ble_eq_true rfl) ?_
  refine V_aload_n (i := 0) dX8_tires_0 rfl rfl ?_
  refine V_aload_n (i := 0) dX8_tires_1 rfl rfl ?_
  refine V_iload_n (i := 1) dX8_tires_2 rfl rfl ?_
  refine Cv1_1 (d := 2) cv_X8_115 dX8_tires_3 (t_X8_isCarrier hA h2) (hp20 hA) rfl rfl (Nat.le_of_ble_eq_true rfl) ⟨Nat.le_refl _, Nat.le_refl _⟩ (by decide) ⟨Nat.le_of_ble_eq_true rfl, Nat.le_of_ble_eq_true rfl⟩ ?_
  refine V_if_eq (tgt := 21) dX8_tires_6 (by decide) (fun h6 => ?_) (fun h6 => ?_)
  · replace h6 := bi_0.mp h6
    simp only [Bool.not_eq_true', Bool.not_eq_false'] at h6
    refine V_iconst (v := 1) dX8_tires_21 (by decide) ?_
    refine VP6 fl_X8_38 dX8_tires_22 hA ?_
    refine V_aload_n (i := 0) dX8_tires_25 rfl rfl ?_
    refine V_getf fl_X8_38 dX8_tires_26 (hp20 hA) rfl ?_
    refine V_if_ne (tgt := 41) dX8_tires_29 (by decide) (fun _ => ?_) (fun h29 => by first | exact absurd ((by rw [rs_6]; decide)) h29 | exact absurd h29 ((by rw [rs_6]; decide)))
    refine V_iconst (v := 0) dX8_tires_41 (by decide) ?_
    refine V_iret dX8_tires_42 rfl (Nat.le_of_ble_eq_true rfl) (Nat.le_of_ble_eq_true rfl) ?_
    refine kfin ?_ rfl
    first
      | (simp [K_tires, *]; done)
      | (simp_all [K_tires]; done)
  · replace h6 := bi_1.mp h6
    simp only [Bool.not_eq_true', Bool.not_eq_false'] at h6
    obtain ⟨j, hj, rfl⟩ := ob_ex (by omega) h6
    have hcj := nI_clamp (n := j) (by omega)
    refine V_aload_n (i := 0) dX8_tires_9 rfl rfl ?_
    refine V_iload_n (i := 2) dX8_tires_10 rfl rfl ?_
    refine Cv1_1 (d := 2) cv_X8_104 dX8_tires_11 (t_X8_isHouse hA h1) (hp20 hA) rfl rfl (Nat.le_of_ble_eq_true rfl) ⟨Nat.le_refl _, Nat.le_refl _⟩ (by decide) ⟨Nat.le_of_ble_eq_true rfl, Nat.le_of_ble_eq_true rfl⟩ ?_
    refine V_if_eq (tgt := 21) dX8_tires_14 (by decide) (fun h14 => ?_) (fun h14 => ?_)
    · replace h14 := bi_0.mp h14
      simp only [Bool.not_eq_true', Bool.not_eq_false'] at h14
      refine V_iconst (v := 1) dX8_tires_21 (by decide) ?_
      refine VP6 fl_X8_38 dX8_tires_22 hA ?_
      refine V_aload_n (i := 0) dX8_tires_25 rfl rfl ?_
      refine V_getf fl_X8_38 dX8_tires_26 (hp20 hA) rfl ?_
      refine V_if_ne (tgt := 41) dX8_tires_29 (by decide) (fun _ => ?_) (fun h29 => by first | exact absurd ((by rw [rs_6]; decide)) h29 | exact absurd h29 ((by rw [rs_6]; decide)))
      refine V_iconst (v := 0) dX8_tires_41 (by decide) ?_
      refine V_iret dX8_tires_42 rfl (Nat.le_of_ble_eq_true rfl) (Nat.le_of_ble_eq_true rfl) ?_
      refine kfin ?_ rfl
      first
        | (simp [K_tires, *]; done)
        | (simp_all [K_tires]; done)
    · replace h14 := bi_1.mp h14
      simp only [Bool.not_eq_true', Bool.not_eq_false'] at h14
      obtain ⟨i, hi, rfl⟩ := ob_ex (by omega) h14
      have hci := nI_clamp (n := i) (by omega)
      refine V_iconst (v := 0) dX8_tires_17 (by decide) ?_
      refine V_goto (tgt := 22) dX8_tires_18 (by decide) ?_
      refine VP6 fl_X8_38 dX8_tires_22 hA ?_
      refine V_aload_n (i := 0) dX8_tires_25 rfl rfl ?_
      refine V_getf fl_X8_38 dX8_tires_26 (hp20 hA) rfl ?_
      refine V_if_ne (tgt := 41) dX8_tires_29 (by decide) (fun h29 => by first | exact absurd h29 ((by rw [rs_6]; decide)) | exact absurd ((by rw [rs_6]; decide)) h29) (fun _ => ?_)
      refine V_aload_n (i := 0) dX8_tires_32 rfl rfl ?_
      refine V_iload_n (i := 1) dX8_tires_33 rfl rfl ?_
      refine V_iload_n (i := 2) dX8_tires_34 rfl rfl ?_
      refine Cv1_2 (d := 2) cv_X8_86 dX8_tires_35 (t_X8_tiredBy hA (by omega) (by omega) (hst j hj)) (hp20 hA) rfl rfl (Nat.le_of_ble_eq_true rfl) ⟨Nat.le_refl _, Nat.le_refl _⟩ (by decide) ⟨Nat.le_of_ble_eq_true rfl, Nat.le_of_ble_eq_true rfl⟩ ?_
      refine V_goto (tgt := 42) dX8_tires_38 (by decide) ?_
      refine V_iret dX8_tires_42 rfl (Nat.le_of_ble_eq_true rfl) (Nat.le_of_ble_eq_true rfl) ?_
      refine kfin ?_ rfl
      first
        | (simp [K_tires, *]; done)
        | (simp_all [K_tires]; done)

set_option maxHeartbeats 4000000 in
set_option maxRecDepth 100000 in
theorem t_X8_canCarry {D : va_G} {s0 : State} {l : Launch} {B : Nat} {A : AT} {σ : Sg} (hA : AOK B A) {P : Int32 × Int32} {u : Nat → Int32} {nh : Nat} (h1 : u 1 = nI nh) (hn8 : nh ≤ 8) {nc : Nat} (h2 : u 2 = nI nc) (hm : nc ≤ 4) (hst : ∀ c, c < nc → 0 < 5 + u (kx c 0)) (hti : ∀ c h, c < nc → h < 8 → 0 < S_tired u c h) {x y : Int32} : Tri D s0 l yX8_canCarry cX8_canCarry 3 ((some .int)) 3 0 0 [.ref (A 20 0 0), .int x, .int y] (HP A (rs σ P u)) (fun r G' => r = some (.int (K_canCarry u nh nc x y).2) ∧ G' = HP A (rs (tS σ (nI (K_canCarry u nh nc x y).1)) P u)) noX := by
  refine Tri.ofV (own := RX8) (mn := "canCarry") (by decide +kernel) rfl rfl (Nat.le_of_ble_eq_true rfl) ?_
  refine V_aload_n (i := 0) dX8_canCarry_0 rfl rfl ?_
  refine V_aload_n (i := 0) dX8_canCarry_1 rfl rfl ?_
  refine V_iload_n (i := 1) dX8_canCarry_2 rfl rfl ?_
  refine Cv1_1 (d := 3) cv_X8_115 dX8_canCarry_3 (t_X8_isCarrier hA h2) (hp20 hA) rfl rfl (Nat.le_of_ble_eq_true rfl) ⟨Nat.le_refl _, Nat.le_refl _⟩ (by decide) ⟨Nat.le_of_ble_eq_true rfl, Nat.le_of_ble_eq_true rfl⟩ ?_
  refine V_if_eq (tgt := 21) dX8_canCarry_6 (by decide) (fun h6 => ?_) (fun h6 => ?_)
  · replace h6 := bi_0.mp h6
    simp only [Bool.not_eq_true', Bool.not_eq_false'] at h6
    refine V_iconst (v := 1) dX8_canCarry_21 (by decide) ?_
    refine VP6 fl_X8_38 dX8_canCarry_22 hA ?_
    refine V_aload_n (i := 0) dX8_canCarry_25 rfl rfl ?_
    refine V_getf fl_X8_38 dX8_canCarry_26 (hp20 hA) rfl ?_
    refine V_if_ne (tgt := 41) dX8_canCarry_29 (by decide) (fun _ => ?_) (fun h29 => by first | exact absurd ((by rw [rs_6]; decide)) h29 | exact absurd h29 ((by rw [rs_6]; decide)))
    refine V_iconst (v := 0) dX8_canCarry_41 (by decide) ?_
    refine V_iret dX8_canCarry_42 rfl (Nat.le_of_ble_eq_true rfl) (Nat.le_of_ble_eq_true rfl) ?_
    refine kfin ?_ rfl
    first
      | (simp [K_canCarry, *]; done)
      | (simp_all [K_canCarry]; done)
  · replace h6 := bi_1.mp h6
    simp only [Bool.not_eq_true', Bool.not_eq_false'] at h6
    obtain ⟨j, hj, rfl⟩ := ob_ex (by omega) h6
    have hcj := nI_clamp (n := j) (by omega)
    refine V_aload_n (i := 0) dX8_canCarry_9 rfl rfl ?_
    refine V_iload_n (i := 2) dX8_canCarry_10 rfl rfl ?_
    refine Cv1_1 (d := 3) cv_X8_104 dX8_canCarry_11 (t_X8_isHouse hA h1) (hp20 hA) rfl rfl (Nat.le_of_ble_eq_true rfl) ⟨Nat.le_refl _, Nat.le_refl _⟩ (by decide) ⟨Nat.le_of_ble_eq_true rfl, Nat.le_of_ble_eq_true rfl⟩ ?_
    refine V_if_eq (tgt := 21) dX8_canCarry_14 (by decide) (fun h14 => ?_) (fun h14 => ?_)
    · replace h14 := bi_0.mp h14
      simp only [Bool.not_eq_true', Bool.not_eq_false'] at h14
      refine V_iconst (v := 1) dX8_canCarry_21 (by decide) ?_
      refine VP6 fl_X8_38 dX8_canCarry_22 hA ?_
      refine V_aload_n (i := 0) dX8_canCarry_25 rfl rfl ?_
      refine V_getf fl_X8_38 dX8_canCarry_26 (hp20 hA) rfl ?_
      refine V_if_ne (tgt := 41) dX8_canCarry_29 (by decide) (fun _ => ?_) (fun h29 => by first | exact absurd ((by rw [rs_6]; decide)) h29 | exact absurd h29 ((by rw [rs_6]; decide)))
      refine V_iconst (v := 0) dX8_canCarry_41 (by decide) ?_
      refine V_iret dX8_canCarry_42 rfl (Nat.le_of_ble_eq_true rfl) (Nat.le_of_ble_eq_true rfl) ?_
      refine kfin ?_ rfl
      first
        | (simp [K_canCarry, *]; done)
        | (simp_all [K_canCarry]; done)
    · replace h14 := bi_1.mp h14
      simp only [Bool.not_eq_true', Bool.not_eq_false'] at h14
      obtain ⟨i, hi, rfl⟩ := ob_ex (by omega) h14
      have hci := nI_clamp (n := i) (by omega)
      refine V_iconst (v := 0) dX8_canCarry_17 (by decide) ?_
      refine V_goto (tgt := 22) dX8_canCarry_18 (by decide) ?_
      refine VP6 fl_X8_38 dX8_canCarry_22 hA ?_
      refine V_aload_n (i := 0) dX8_canCarry_25 rfl rfl ?_
      refine V_getf fl_X8_38 dX8_canCarry_26 (hp20 hA) rfl ?_
      refine V_if_ne (tgt := 41) dX8_canCarry_29 (by decide) (fun h29 => by first | exact absurd h29 ((by rw [rs_6]; decide)) | exact absurd ((by rw [rs_6]; decide)) h29) (fun _ => ?_)
      refine V_aload_n (i := 0) dX8_canCarry_32 rfl rfl ?_
      refine V_iload_n (i := 1) dX8_canCarry_33 rfl rfl ?_
      refine V_iload_n (i := 2) dX8_canCarry_34 rfl rfl ?_
      refine Cv1_2 (d := 3) cv_X8_165 dX8_canCarry_35 (t_X8_canBy hA (by omega) (by omega) (hst j hj) (hti j i hj (by omega))) (hp20 hA) rfl rfl (Nat.le_of_ble_eq_true rfl) ⟨Nat.le_refl _, Nat.le_refl _⟩ (by decide) ⟨Nat.le_of_ble_eq_true rfl, Nat.le_of_ble_eq_true rfl⟩ ?_
      refine V_goto (tgt := 42) dX8_canCarry_38 (by decide) ?_
      refine V_iret dX8_canCarry_42 rfl (Nat.le_of_ble_eq_true rfl) (Nat.le_of_ble_eq_true rfl) ?_
      refine kfin ?_ rfl
      first
        | (simp [K_canCarry, *]; done)
        | (simp_all [K_canCarry]; done)

theorem t_X8_canBye {D : va_G} {s0 : State} {l : Launch} {B : Nat} {A : AT} {σ : Sg} (hA : AOK B A) {P : Int32 × Int32} {u : Nat → Int32} {c h : Nat} {x : Int32} (e : x = nI h) (hc : c < 4) (hh : h < 8) (ht : 0 < 5 + u (kx c 0)) (hs : 0 < S_tired u c h) : Tri D s0 l yX8_canBy cX8_canBy 3 ((some .int)) 2 0 0 [.ref (A 20 0 0), .int (nI c), .int x] (HP A (rs σ P u)) (fun r G' => r = some (.int (S_can u c h)) ∧ G' = HP A (rs σ P u)) noX := by
  subst e
  exact t_X8_canBy hA hc hh ht hs

set_option maxHeartbeats 4000000 in
set_option maxRecDepth 100000 in
theorem t_X8_mayCarry {D : va_G} {s0 : State} {l : Launch} {B : Nat} {A : AT} {σ : Sg} (hA : AOK B A) {P : Int32 × Int32} {u : Nat → Int32} {nc : Nat} (h2 : u 2 = nI nc) (hm : nc ≤ 4) {pl : Nat} (h3 : u 3 = nI pl) (hp : pl ≤ 8) (hst : ∀ c, c < nc → 0 < 5 + u (kx c 0)) (hti : ∀ c h, c < nc → h < 8 → 0 < S_tired u c h) (hdo : ∀ h, h < 8 → u (hx h 1) = 0 ∨ u (hx h 1) = 1 ∨ u (hx h 1) = 2) (hbo : ∀ h, h < 8 → u (hx h 7) = 0 ∨ u (hx h 7) = 1) {x : Int32} : Tri D s0 l yX8_mayCarry cX8_mayCarry 4 ((some .int)) 3 0 0 [.ref (A 20 0 0), .int x] (HP A (rs σ P u)) (fun r G' => r = some (.int (KR_may u nc pl x).2) ∧ G' = HP A (rs (tS σ (nI (KR_may u nc pl x).1)) P u)) noX := by
  refine Tri.ofV (own := RX8) (mn := "mayCarry") (by decide +kernel) rfl rfl (Nat.le_of_ble_eq_true rfl) ?_
  refine V_aload_n (i := 0) dX8_mayCarry_0 rfl rfl ?_
  refine V_aload_n (i := 0) dX8_mayCarry_1 rfl rfl ?_
  refine V_iload_n (i := 1) dX8_mayCarry_2 rfl rfl ?_
  refine Cv1_1 (d := 3) cv_X8_115 dX8_mayCarry_3 (t_X8_isCarrier hA h2) (hp20 hA) rfl rfl (Nat.le_of_ble_eq_true rfl) ⟨Nat.le_refl _, Nat.le_refl _⟩ (by decide) ⟨Nat.le_of_ble_eq_true rfl, Nat.le_of_ble_eq_true rfl⟩ ?_
  refine V_if_eq (tgt := 13) dX8_mayCarry_6 (by decide) (fun h6 => ?_) (fun h6 => ?_)
  · replace h6 := bi_0.mp h6
    simp only [Bool.not_eq_true', Bool.not_eq_false'] at h6
    refine V_iconst (v := 1) dX8_mayCarry_13 (by decide) ?_
    refine VP6 fl_X8_38 dX8_mayCarry_14 hA ?_
    refine V_aload_n (i := 0) dX8_mayCarry_17 rfl rfl ?_
    refine Cv1_0 (d := 3) cv_X8_137 dX8_mayCarry_18 (t_X8_here hA) (hp20 hA) rfl rfl (Nat.le_of_ble_eq_true rfl) ⟨Nat.le_refl _, Nat.le_refl _⟩ (by decide) ⟨Nat.le_of_ble_eq_true rfl, Nat.le_of_ble_eq_true rfl⟩ ?_
    refine V_istore_n (i := 2) dX8_mayCarry_21 rfl (by decide) ?_
    refine V_aload_n (i := 0) dX8_mayCarry_22 rfl rfl ?_
    refine V_getf fl_X8_38 dX8_mayCarry_23 (hp20 hA) rfl ?_
    refine V_if_ne (tgt := 55) dX8_mayCarry_26 (by decide) (fun _ => ?_) (fun h26 => by first | exact absurd ((by rw [rs_6]; decide)) h26 | exact absurd h26 ((by rw [rs_6]; decide)))
    refine V_iconst (v := 0) dX8_mayCarry_55 (by decide) ?_
    refine V_iret dX8_mayCarry_56 rfl (Nat.le_of_ble_eq_true rfl) (Nat.le_of_ble_eq_true rfl) ?_
    refine kfin ?_ rfl
    first
      | (simp [KR_may, R_may, *]; done)
      | (simp only [KR_may, R_may, h6, hcj, hp0, h41, h52, if_false, if_true, Bool.false_eq_true]; rfl)
  · replace h6 := bi_1.mp h6
    simp only [Bool.not_eq_true', Bool.not_eq_false'] at h6
    obtain ⟨j, hj, rfl⟩ := ob_ex (by omega) h6
    have hcj := nI_clamp (n := j) (by omega)
    refine V_iconst (v := 0) dX8_mayCarry_9 (by decide) ?_
    refine V_goto (tgt := 14) dX8_mayCarry_10 (by decide) ?_
    refine VP6 fl_X8_38 dX8_mayCarry_14 hA ?_
    refine V_aload_n (i := 0) dX8_mayCarry_17 rfl rfl ?_
    refine Cv1_0 (d := 3) cv_X8_137 dX8_mayCarry_18 (t_X8_here hA) (hp20 hA) rfl rfl (Nat.le_of_ble_eq_true rfl) ⟨Nat.le_refl _, Nat.le_refl _⟩ (by decide) ⟨Nat.le_of_ble_eq_true rfl, Nat.le_of_ble_eq_true rfl⟩ ?_
    refine V_istore_n (i := 2) dX8_mayCarry_21 rfl (by decide) ?_
    refine V_aload_n (i := 0) dX8_mayCarry_22 rfl rfl ?_
    refine V_getf fl_X8_38 dX8_mayCarry_23 (hp20 hA) rfl ?_
    refine V_if_ne (tgt := 55) dX8_mayCarry_26 (by decide) (fun h26 => by first | exact absurd h26 ((by rw [rs_6]; decide)) | exact absurd ((by rw [rs_6]; decide)) h26) (fun _ => ?_)
    refine V_iload_n (i := 2) dX8_mayCarry_29 rfl rfl ?_
    refine V_if_lt (tgt := 55) dX8_mayCarry_30 (by decide) (fun h30 => ?_) (fun h30 => ?_)
    · have hp0 := pl_0 h3 hp h30
      refine V_iconst (v := 0) dX8_mayCarry_55 (by decide) ?_
      refine V_iret dX8_mayCarry_56 rfl (Nat.le_of_ble_eq_true rfl) (Nat.le_of_ble_eq_true rfl) ?_
      refine kfin ?_ rfl
      first
        | (simp [KR_may, R_may, *]; done)
        | (simp only [KR_may, R_may, h6, hcj, hp0, h41, h52, if_false, if_true, Bool.false_eq_true]; rfl)
    · have hh := pl_1 h3 (decide_eq_false h30)
      have hp0 : ¬ pl = 0 := by omega
      have hh9 := hh.2
      refine V_aload_n (i := 0) dX8_mayCarry_33 rfl rfl ?_
      refine V_iload_n (i := 2) dX8_mayCarry_34 rfl rfl ?_
      refine V_iconst (v := nI 4) dX8_mayCarry_35 (by decide) ?_
      refine Cv1_2 (d := 3) cv_X8_74 dX8_mayCarry_36 (t_X8_ofe hA hh9 (by omega) (by decide)) (hp20 hA) rfl rfl (Nat.le_of_ble_eq_true rfl) ⟨Nat.le_refl _, Nat.le_refl _⟩ (by decide) ⟨Nat.le_of_ble_eq_true rfl, Nat.le_of_ble_eq_true rfl⟩ ?_
      refine V_bipush (v := 12) dX8_mayCarry_39 (by decide) ?_
      refine V_icmp_gt (tgt := 55) dX8_mayCarry_41 (by decide) (fun h41 => ?_) (fun h41 => ?_)
      · refine V_iconst (v := 0) dX8_mayCarry_55 (by decide) ?_
        refine V_iret dX8_mayCarry_56 rfl (Nat.le_of_ble_eq_true rfl) (Nat.le_of_ble_eq_true rfl) ?_
        refine kfin ?_ rfl
        first
          | (simp [KR_may, R_may, *]; done)
          | (simp only [KR_may, R_may, h6, hcj, hp0, h41, h52, if_false, if_true, Bool.false_eq_true]; rfl)
      · refine V_aload_n (i := 0) dX8_mayCarry_44 rfl rfl ?_
        refine V_iload_n (i := 2) dX8_mayCarry_45 rfl rfl ?_
        refine V_iconst (v := nI 5) dX8_mayCarry_46 (by decide) ?_
        refine Cv1_2 (d := 3) cv_X8_74 dX8_mayCarry_47 (t_X8_ofe hA hh9 (by omega) (by decide)) (hp20 hA) rfl rfl (Nat.le_of_ble_eq_true rfl) ⟨Nat.le_refl _, Nat.le_refl _⟩ (by decide) ⟨Nat.le_of_ble_eq_true rfl, Nat.le_of_ble_eq_true rfl⟩ ?_
        refine V_bipush (v := 8) dX8_mayCarry_50 (by decide) ?_
        refine V_icmp_le (tgt := 57) dX8_mayCarry_52 (by decide) (fun h52 => ?_) (fun h52 => ?_)
        · replace h52 := Int32.not_lt.mpr h52
          refine V_bipush (v := 9) dX8_mayCarry_57 (by decide) ?_
          refine V_aload_n (i := 0) dX8_mayCarry_59 rfl rfl ?_
          refine V_getf fl_X8_9 dX8_mayCarry_60 (hp20 hA) rfl ?_
          refine V_iconst (v := nI 4) dX8_mayCarry_63 (by decide) ?_
          refine VL_21 dX8_mayCarry_64 hA rfl (by omega) ?_
          refine V_mmin cm_X8_125 dX8_mayCarry_65 (Nat.le_of_ble_eq_true rfl) (Nat.le_of_ble_eq_true rfl) (Nat.le_of_ble_eq_true rfl) (Nat.le_of_ble_eq_true rfl) ?_
          refine V_aload_n (i := 0) dX8_mayCarry_68 rfl rfl ?_
          refine V_iload_n (i := 2) dX8_mayCarry_69 rfl rfl ?_
          refine V_iconst (v := nI 3) dX8_mayCarry_70 (by decide) ?_
          refine Cv1_2 (d := 3) cv_X8_74 dX8_mayCarry_71 (t_X8_ofe hA hh9 (by omega) (by decide)) (hp20 hA) rfl rfl (Nat.le_of_ble_eq_true rfl) ⟨Nat.le_refl _, Nat.le_refl _⟩ (by decide) ⟨Nat.le_of_ble_eq_true rfl, Nat.le_of_ble_eq_true rfl⟩ ?_
          refine V_mmin cm_X8_125 dX8_mayCarry_74 (Nat.le_of_ble_eq_true rfl) (Nat.le_of_ble_eq_true rfl) (Nat.le_of_ble_eq_true rfl) (Nat.le_of_ble_eq_true rfl) ?_
          refine V_istore_n (i := 3) dX8_mayCarry_77 rfl (by decide) ?_
          refine V_iload_n (i := 3) dX8_mayCarry_78 rfl rfl ?_
          refine V_aload_n (i := 0) dX8_mayCarry_79 rfl rfl ?_
          refine V_iload_n (i := 2) dX8_mayCarry_80 rfl rfl ?_
          refine Cv1_1 (d := 3) cv_X8_111 dX8_mayCarry_81 (t_X8_letse hA hh9 (by omega) (hdo _ (by omega)) (hbo _ (by omega))) (hp20 hA) rfl rfl (Nat.le_of_ble_eq_true rfl) ⟨Nat.le_refl _, Nat.le_refl _⟩ (by decide) ⟨Nat.le_of_ble_eq_true rfl, Nat.le_of_ble_eq_true rfl⟩ ?_
          refine V_aload_n (i := 0) dX8_mayCarry_84 rfl rfl ?_
          refine V_iload_n (i := 1) dX8_mayCarry_85 rfl rfl ?_
          refine V_iload_n (i := 2) dX8_mayCarry_86 rfl rfl ?_
          refine Cv1_2 (d := 3) cv_X8_165 dX8_mayCarry_87 (t_X8_canBye hA hh9 (by omega) (by omega) (hst j hj) (hti j _ hj (by omega))) (hp20 hA) rfl rfl (Nat.le_of_ble_eq_true rfl) ⟨Nat.le_refl _, Nat.le_refl _⟩ (by decide) ⟨Nat.le_of_ble_eq_true rfl, Nat.le_of_ble_eq_true rfl⟩ ?_
          refine V_mmin cm_X8_125 dX8_mayCarry_90 (Nat.le_of_ble_eq_true rfl) (Nat.le_of_ble_eq_true rfl) (Nat.le_of_ble_eq_true rfl) (Nat.le_of_ble_eq_true rfl) ?_
          refine V_mmin cm_X8_125 dX8_mayCarry_93 (Nat.le_of_ble_eq_true rfl) (Nat.le_of_ble_eq_true rfl) (Nat.le_of_ble_eq_true rfl) (Nat.le_of_ble_eq_true rfl) ?_
          refine V_iret dX8_mayCarry_96 rfl (Nat.le_of_ble_eq_true rfl) (Nat.le_of_ble_eq_true rfl) ?_
          refine kfin ?_ rfl
          first
            | (simp [KR_may, R_may, *]; done)
            | (simp only [KR_may, R_may, h6, hcj, hp0, h41, h52, if_false, if_true, Bool.false_eq_true]; rfl)
        · replace h52 := Int32.not_le.mp h52
          refine V_iconst (v := 0) dX8_mayCarry_55 (by decide) ?_
          refine V_iret dX8_mayCarry_56 rfl (Nat.le_of_ble_eq_true rfl) (Nat.le_of_ble_eq_true rfl) ?_
          refine kfin ?_ rfl
          first
            | (simp [KR_may, R_may, *]; done)
            | (simp only [KR_may, R_may, h6, hcj, hp0, h41, h52, if_false, if_true, Bool.false_eq_true]; rfl)

set_option maxHeartbeats 4000000 in
set_option maxRecDepth 100000 in
theorem t_X8_isQuiet {D : va_G} {s0 : State} {l : Launch} {B : Nat} {A : AT} {σ : Sg} (hA : AOK B A) {P : Int32 × Int32} {u : Nat → Int32} {nh : Nat} (h1 : u 1 = nI nh) (hn8 : nh ≤ 8) (hdo : ∀ h, h < 8 → u (hx h 1) = 0 ∨ u (hx h 1) = 1 ∨ u (hx h 1) = 2) (hbo : ∀ h, h < 8 → u (hx h 7) = 0 ∨ u (hx h 7) = 1) {x : Int32} : Tri D s0 l yX8_isQuiet cX8_isQuiet 2 ((some .boolean)) 2 0 0 [.ref (A 20 0 0), .int x] (HP A (rs σ P u)) (fun r G' => r = some (.int (K_quiet u nh x).2) ∧ G' = HP A (rs (tS σ (nI (K_quiet u nh x).1)) P u)) noX := by
  refine Tri.ofV (own := RX8) (mn := "isQuiet") (by decide +kernel) rfl rfl (Nat.le_of_ble_eq_true rfl) ?_
  refine V_aload_n (i := 0) dX8_isQuiet_0 rfl rfl ?_
  refine V_aload_n (i := 0) dX8_isQuiet_1 rfl rfl ?_
  refine V_iload_n (i := 1) dX8_isQuiet_2 rfl rfl ?_
  refine Cv1_1 (d := 2) cv_X8_104 dX8_isQuiet_3 (t_X8_isHouse hA h1) (hp20 hA) rfl rfl (Nat.le_of_ble_eq_true rfl) ⟨Nat.le_refl _, Nat.le_refl _⟩ (by decide) ⟨Nat.le_of_ble_eq_true rfl, Nat.le_of_ble_eq_true rfl⟩ ?_
  refine V_if_eq (tgt := 13) dX8_isQuiet_6 (by decide) (fun h6 => ?_) (fun h6 => ?_)
  · replace h6 := bi_0.mp h6
    simp only [Bool.not_eq_true', Bool.not_eq_false'] at h6
    refine V_iconst (v := 1) dX8_isQuiet_13 (by decide) ?_
    refine VP6 fl_X8_38 dX8_isQuiet_14 hA ?_
    refine V_aload_n (i := 0) dX8_isQuiet_17 rfl rfl ?_
    refine V_getf fl_X8_38 dX8_isQuiet_18 (hp20 hA) rfl ?_
    refine V_if_ne (tgt := 36) dX8_isQuiet_21 (by decide) (fun _ => ?_) (fun h21 => by first | exact absurd ((by rw [rs_6]; decide)) h21 | exact absurd h21 ((by rw [rs_6]; decide)))
    refine V_iconst (v := 0) dX8_isQuiet_36 (by decide) ?_
    refine V_zret dX8_isQuiet_37 rfl (by first | rfl | exact bi_n _) (Nat.le_of_ble_eq_true rfl) (Nat.le_of_ble_eq_true rfl) ?_
    refine kfin ?_ rfl
    first
      | (simp only [K_quiet, *, decide_eq_true h29]; simp [bi]; done)
      | (simp [K_quiet, *, bi]; done)
  · replace h6 := bi_1.mp h6
    simp only [Bool.not_eq_true', Bool.not_eq_false'] at h6
    obtain ⟨j, hj, rfl⟩ := ob_ex (by omega) h6
    have hcj := nI_clamp (n := j) (by omega)
    refine V_iconst (v := 0) dX8_isQuiet_9 (by decide) ?_
    refine V_goto (tgt := 14) dX8_isQuiet_10 (by decide) ?_
    refine VP6 fl_X8_38 dX8_isQuiet_14 hA ?_
    refine V_aload_n (i := 0) dX8_isQuiet_17 rfl rfl ?_
    refine V_getf fl_X8_38 dX8_isQuiet_18 (hp20 hA) rfl ?_
    refine V_if_ne (tgt := 36) dX8_isQuiet_21 (by decide) (fun h21 => by first | exact absurd h21 ((by rw [rs_6]; decide)) | exact absurd ((by rw [rs_6]; decide)) h21) (fun _ => ?_)
    refine V_aload_n (i := 0) dX8_isQuiet_24 rfl rfl ?_
    refine V_iload_n (i := 1) dX8_isQuiet_25 rfl rfl ?_
    refine Cv1_1 (d := 2) cv_X8_111 dX8_isQuiet_26 (t_X8_lets hA (by omega) (hdo j (by omega)) (hbo j (by omega))) (hp20 hA) rfl rfl (Nat.le_of_ble_eq_true rfl) ⟨Nat.le_refl _, Nat.le_refl _⟩ (by decide) ⟨Nat.le_of_ble_eq_true rfl, Nat.le_of_ble_eq_true rfl⟩ ?_
    refine V_if_le (tgt := 36) dX8_isQuiet_29 (by decide) (fun h29 => ?_) (fun h29 => ?_)
    · replace h29 := Int32.not_lt.mpr h29
      refine V_iconst (v := 0) dX8_isQuiet_36 (by decide) ?_
      refine V_zret dX8_isQuiet_37 rfl (by first | rfl | exact bi_n _) (Nat.le_of_ble_eq_true rfl) (Nat.le_of_ble_eq_true rfl) ?_
      refine kfin ?_ rfl
      first
        | (simp only [K_quiet, *, decide_eq_true h29]; simp [bi]; done)
        | (simp [K_quiet, *, bi]; done)
    · replace h29 := Int32.not_le.mp h29
      refine V_iconst (v := 1) dX8_isQuiet_32 (by decide) ?_
      refine V_goto (tgt := 37) dX8_isQuiet_33 (by decide) ?_
      refine V_zret dX8_isQuiet_37 rfl (by first | rfl | exact bi_n _) (Nat.le_of_ble_eq_true rfl) (Nat.le_of_ble_eq_true rfl) ?_
      refine kfin ?_ rfl
      first
        | (simp only [K_quiet, *, decide_eq_true h29]; simp [bi]; done)
        | (simp [K_quiet, *, bi]; done)

set_option maxHeartbeats 4000000 in
set_option maxRecDepth 100000 in
theorem t_X8_carried {D : va_G} {s0 : State} {l : Launch} {B : Nat} {A : AT} {σ : Sg} (hA : AOK B A) {P : Int32 × Int32} {u : Nat → Int32} {nc : Nat} (h2 : u 2 = nI nc) (hm : nc ≤ 4) : Tri D s0 l yX8_carried cX8_carried 3 ((some .int)) 1 0 0 [.ref (A 20 0 0)] (HP A (rs σ P u)) (fun r G' => r = some (.int (sm (fun c => u (kx c 3)) nc)) ∧ G' = HP A (rs (tS σ 0) P u)) noX := by
  refine Tri.ofV (own := RX8) (mn := "carried") (by decide +kernel) rfl rfl (Nat.le_of_ble_eq_true rfl) ?_
  have loop : ∀ n i : Nat, i + n = nc → V D s0 RX8 "carried" cX8_carried 3 ((some .int)) [] l (rmd 1 0 0) (Zm D s0 0 0 (fun r G' => r = some (.int (sm (fun c => u (kx c 3)) nc)) ∧ G' = HP A (rs (tS σ 0) P u)) noX) 9 [(0, .ref (A 20 0 0)), (1, .int (sm (fun c => u (kx c 3)) i)), (2, .int (nI i))] [] (HP A (rs (tS σ 0) P u)) 0 0 := by
    intro n
    induction n with
    | zero =>
      intro i hi9
      obtain rfl : nc = i := by omega
      refine V_iload_n (i := 2) dX8_carried_9 rfl rfl ?_
      refine V_aload_n (i := 0) dX8_carried_10 rfl rfl ?_
      refine V_getf fl_X8_9 dX8_carried_11 (hp20 hA) rfl ?_
      refine V_iconst (v := nI 2) dX8_carried_14 (by decide) ?_
      refine VL_21 dX8_carried_15 hA rfl (by omega) ?_
      refine V_icmp_ge (tgt := 34) dX8_carried_16 (by decide) (fun _ => ?_) (fun h16 => by first | exact absurd (by rw [h2]; exact nI_le (Nat.le_refl _) (by omega)) h16 | exact absurd h16 (by rw [h2]; exact nI_le (Nat.le_refl _) (by omega)))
      refine V_iload_n (i := 1) dX8_carried_34 rfl rfl ?_
      refine V_iret dX8_carried_35 rfl (Nat.le_of_ble_eq_true rfl) (Nat.le_of_ble_eq_true rfl) ?_
      exact ⟨rfl, rfl⟩
    | succ n ih =>
      intro i hi9
      have k9 := ih (i + 1) (by omega)
      have hi8 : i < nc := by omega
      refine V_iload_n (i := 2) dX8_carried_9 rfl rfl ?_
      refine V_aload_n (i := 0) dX8_carried_10 rfl rfl ?_
      refine V_getf fl_X8_9 dX8_carried_11 (hp20 hA) rfl ?_
      refine V_iconst (v := nI 2) dX8_carried_14 (by decide) ?_
      refine VL_21 dX8_carried_15 hA rfl (by omega) ?_
      refine V_icmp_ge (tgt := 34) dX8_carried_16 (by decide) (fun h16 => by first | exact absurd h16 (by rw [h2]; exact nI_ge (by omega) (by omega)) | exact absurd (by rw [h2]; exact nI_ge (by omega) (by omega)) h16) (fun _ => ?_)
      refine V_iload_n (i := 1) dX8_carried_19 rfl rfl ?_
      refine V_aload_n (i := 0) dX8_carried_20 rfl rfl ?_
      refine V_iload_n (i := 2) dX8_carried_21 rfl rfl ?_
      refine V_iconst (v := nI 3) dX8_carried_22 (by decide) ?_
      refine Cv1_2 (d := 1) cv_X8_83 dX8_carried_23 (t_X8_ofCarrier hA (by omega) (by decide)) (hp20 hA) rfl rfl (Nat.le_of_ble_eq_true rfl) ⟨Nat.le_refl _, Nat.le_refl _⟩ (by decide) ⟨Nat.le_of_ble_eq_true rfl, Nat.le_of_ble_eq_true rfl⟩ ?_
      refine V_iadd dX8_carried_26 ?_
      refine V_istore_n (i := 1) dX8_carried_27 rfl (by decide) ?_
      refine V_iinc (i := 2) dX8_carried_28 rfl (inc1 _) (by decide) ?_
      refine V_goto (tgt := 9) dX8_carried_31 (by decide) ?_
      refine V.fin [2, 1, 0] rfl (congrArg (HP A) ?_) k9
      rfl
  refine V_aload_n (i := 0) dX8_carried_0 rfl rfl ?_
  refine V_iconst (v := 0) dX8_carried_1 (by decide) ?_
  refine VP6 fl_X8_38 dX8_carried_2 hA ?_
  refine V_iconst (v := 0) dX8_carried_5 (by decide) ?_
  refine V_istore_n (i := 1) dX8_carried_6 rfl (by decide) ?_
  refine V_iconst (v := nI 0) dX8_carried_7 (by decide) ?_
  refine V_istore_n (i := 2) dX8_carried_8 rfl (by decide) ?_
  exact V.fin [2, 1, 0] rfl rfl (loop nc 0 (by omega))

set_option maxHeartbeats 4000000 in
set_option maxRecDepth 100000 in
theorem t_X8_carriedAgain {D : va_G} {s0 : State} {l : Launch} {B : Nat} {A : AT} {σ : Sg} (hA : AOK B A) {P : Int32 × Int32} {u : Nat → Int32} {nh : Nat} (h1 : u 1 = nI nh) (hn8 : nh ≤ 8) : Tri D s0 l yX8_carriedAgain cX8_carriedAgain 1 ((some .int)) 2 0 0 [.ref (A 20 0 0)] (HP A (rs σ P u)) (fun r G' => r = some (.int ((u 7 + S_sum u nh 4) / 3)) ∧ G' = HP A (rs (tS σ 0) P u)) noX := by
  refine Tri.ofV (own := RX8) (mn := "carriedAgain") (by decide +kernel) rfl rfl (Nat.le_of_ble_eq_true rfl) ?_
  refine V_aload_n (i := 0) dX8_carriedAgain_0 rfl rfl ?_
  refine V_iconst (v := 0) dX8_carriedAgain_1 (by decide) ?_
  refine VP6 fl_X8_38 dX8_carriedAgain_2 hA ?_
  refine V_aload_n (i := 0) dX8_carriedAgain_5 rfl rfl ?_
  refine V_getf fl_X8_9 dX8_carriedAgain_6 (hp20 hA) rfl ?_
  refine V_bipush (v := nI 7) dX8_carriedAgain_9 (by decide) ?_
  refine VL_21 dX8_carriedAgain_11 hA rfl (by omega) ?_
  refine V_aload_n (i := 0) dX8_carriedAgain_12 rfl rfl ?_
  refine V_iconst (v := nI 4) dX8_carriedAgain_13 (by decide) ?_
  refine Cv1_1 (d := 2) cv_X8_159 dX8_carriedAgain_14 (t_X8_sum hA h1 hn8 (by decide)) (hp20 hA) rfl rfl (Nat.le_of_ble_eq_true rfl) ⟨Nat.le_refl _, Nat.le_refl _⟩ (by decide) ⟨Nat.le_of_ble_eq_true rfl, Nat.le_of_ble_eq_true rfl⟩ ?_
  refine V_iadd dX8_carriedAgain_17 ?_
  refine V_iconst (v := 3) dX8_carriedAgain_18 (by decide) ?_
  refine V_idiv dX8_carriedAgain_19 (by decide) ?_
  refine V_iret dX8_carriedAgain_20 rfl (Nat.le_of_ble_eq_true rfl) (Nat.le_of_ble_eq_true rfl) ?_
  exact ⟨rfl, rfl⟩

set_option maxHeartbeats 4000000 in
set_option maxRecDepth 100000 in
theorem t_X8_faultPosition {D : va_G} {s0 : State} {l : Launch} {B : Nat} {A : AT} {σ : Sg} (hA : AOK B A) : Tri D s0 l yX8_faultPosition cX8_faultPosition 1 ((some .int)) 0 0 0 [.ref (A 20 0 0)] (HP A σ) (fun r G' => r = some (.int (σ.1 20 0 12)) ∧ G' = HP A (w3 σ 20 0 6 0)) noX := by
  refine Tri.ofV (own := RX8) (mn := "faultPosition") (by decide +kernel) rfl rfl (Nat.le_of_ble_eq_true rfl) ?_
  refine V_aload_n (i := 0) dX8_faultPosition_0 rfl rfl ?_
  refine V_iconst (v := 0) dX8_faultPosition_1 (by decide) ?_
  refine VP_20_6 fl_X8_38 dX8_faultPosition_2 hA ?_
  refine V_aload_n (i := 0) dX8_faultPosition_5 rfl rfl ?_
  refine V_getf fl_X8_25 dX8_faultPosition_6 (hp20 hA) rfl ?_
  refine V_iret dX8_faultPosition_9 rfl (Nat.le_of_ble_eq_true rfl) (Nat.le_of_ble_eq_true rfl) ?_
  exact ⟨by rw [w3_ne (by omega)], rfl⟩

set_option maxHeartbeats 4000000 in
set_option maxRecDepth 100000 in
theorem t_X8_reason {D : va_G} {s0 : State} {l : Launch} {B : Nat} {A : AT} {σ : Sg} (hA : AOK B A) {x : Int32} : Tri D s0 l yX8_reason cX8_reason 2 ((some .int)) 1 0 0 [.ref (A 20 0 0), .int x] (HP A σ) (fun r G' => r = some (.int (K_reason (σ.1 20 0 7) (σ.1 20 0 8) (σ.1 20 0 9) x).2) ∧ G' = HP A (w3 σ 20 0 6 (nI (K_reason (σ.1 20 0 7) (σ.1 20 0 8) (σ.1 20 0 9) x).1))) noX := by
  refine Tri.ofV (own := RX8) (mn := "reason") (by decide +kernel) rfl rfl (Nat.le_of_ble_eq_true rfl) ?_
  refine V_aload_n (i := 0) dX8_reason_0 rfl rfl ?_
  refine V_iload_n (i := 1) dX8_reason_1 rfl rfl ?_
  refine V_iconst (v := 0) dX8_reason_2 (by decide) ?_
  refine V_iconst (v := 2) dX8_reason_3 (by decide) ?_
  refine Cs1_3 (d := 1) cs_X8_66 dX8_reason_4 (t_X8_isIn hA) (Nat.le_of_ble_eq_true rfl) ⟨Nat.le_refl _, Nat.le_refl _⟩ (by decide) ⟨Nat.le_of_ble_eq_true rfl, Nat.le_of_ble_eq_true rfl⟩ ?_
  refine V_if_ne (tgt := 14) dX8_reason_7 (by decide) (fun h7 => ?_) (fun h7 => ?_)
  · replace h7 := bi_1.mp h7
    simp only [Bool.not_eq_true', Bool.not_eq_false'] at h7
    refine V_aload_n (i := 0) dX8_reason_14 rfl rfl ?_
    refine V_getf fl_X8_54 dX8_reason_15 (hp20 hA) rfl ?_
    refine V_if_ne (tgt := 25) dX8_reason_18 (by decide) (fun h18 => ?_) (fun h18 => ?_)
    · refine V_iconst (v := 0) dX8_reason_25 (by decide) ?_
      refine VP_20_6 fl_X8_38 dX8_reason_26 hA ?_
      refine V_aload_n (i := 0) dX8_reason_29 rfl rfl ?_
      refine V_getf fl_X8_38 dX8_reason_30 (hp20 hA) rfl ?_
      refine V_if_eq (tgt := 40) dX8_reason_33 (by decide) (fun _ => ?_) (fun h33 => by first | exact absurd ((by rw [w3_eq]; decide)) h33 | exact absurd h33 ((by rw [w3_eq]; decide)))
      refine V_iload_n (i := 1) dX8_reason_40 rfl rfl ?_
      refine V_if_ne (tgt := 51) dX8_reason_41 (by decide) (fun h41 => ?_) (fun h41 => ?_)
      · refine V_iload_n (i := 1) dX8_reason_51 rfl rfl ?_
        refine V_iconst (v := 1) dX8_reason_52 (by decide) ?_
        refine V_icmp_ne (tgt := 63) dX8_reason_53 (by decide) (fun h53 => ?_) (fun h53 => ?_)
        · refine V_aload_n (i := 0) dX8_reason_63 rfl rfl ?_
          refine V_getf fl_X8_60 dX8_reason_64 (hp20 hA) rfl ?_
          refine V_iret dX8_reason_67 rfl (Nat.le_of_ble_eq_true rfl) (Nat.le_of_ble_eq_true rfl) ?_
          refine kfin2 ?_ rfl
          first
            | (simp [K_reason, *]; done)
            | (rw [w3_ne (by omega)]; simp [K_reason, *]; done)
            | (rw [w3_ne (by omega)]; simp_all [K_reason]; done)
        · refine V_aload_n (i := 0) dX8_reason_56 rfl rfl ?_
          refine V_getf fl_X8_57 dX8_reason_57 (hp20 hA) rfl ?_
          refine V_goto (tgt := 67) dX8_reason_60 (by decide) ?_
          refine V_iret dX8_reason_67 rfl (Nat.le_of_ble_eq_true rfl) (Nat.le_of_ble_eq_true rfl) ?_
          refine kfin2 ?_ rfl
          first
            | (simp [K_reason, *]; done)
            | (rw [w3_ne (by omega)]; simp [K_reason, *]; done)
            | (rw [w3_ne (by omega)]; simp_all [K_reason]; done)
      · refine V_aload_n (i := 0) dX8_reason_44 rfl rfl ?_
        refine V_getf fl_X8_54 dX8_reason_45 (hp20 hA) rfl ?_
        refine V_goto (tgt := 67) dX8_reason_48 (by decide) ?_
        refine V_iret dX8_reason_67 rfl (Nat.le_of_ble_eq_true rfl) (Nat.le_of_ble_eq_true rfl) ?_
        refine kfin2 ?_ rfl
        first
          | (simp [K_reason, *]; done)
          | (rw [w3_ne (by omega)]; simp [K_reason, *]; done)
          | (rw [w3_ne (by omega)]; simp_all [K_reason]; done)
    · refine V_iconst (v := 2) dX8_reason_21 (by decide) ?_
      refine V_goto (tgt := 26) dX8_reason_22 (by decide) ?_
      refine VP_20_6 fl_X8_38 dX8_reason_26 hA ?_
      refine V_aload_n (i := 0) dX8_reason_29 rfl rfl ?_
      refine V_getf fl_X8_38 dX8_reason_30 (hp20 hA) rfl ?_
      refine V_if_eq (tgt := 40) dX8_reason_33 (by decide) (fun h33 => by first | exact absurd h33 ((by rw [w3_eq]; decide)) | exact absurd ((by rw [w3_eq]; decide)) h33) (fun _ => ?_)
      refine V_iconst (v := 0) dX8_reason_36 (by decide) ?_
      refine V_goto (tgt := 67) dX8_reason_37 (by decide) ?_
      refine V_iret dX8_reason_67 rfl (Nat.le_of_ble_eq_true rfl) (Nat.le_of_ble_eq_true rfl) ?_
      refine kfin2 ?_ rfl
      first
        | (simp [K_reason, *]; done)
        | (rw [w3_ne (by omega)]; simp [K_reason, *]; done)
        | (rw [w3_ne (by omega)]; simp_all [K_reason]; done)
  · replace h7 := bi_0.mp h7
    simp only [Bool.not_eq_true', Bool.not_eq_false'] at h7
    refine V_iconst (v := 1) dX8_reason_10 (by decide) ?_
    refine V_goto (tgt := 26) dX8_reason_11 (by decide) ?_
    refine VP_20_6 fl_X8_38 dX8_reason_26 hA ?_
    refine V_aload_n (i := 0) dX8_reason_29 rfl rfl ?_
    refine V_getf fl_X8_38 dX8_reason_30 (hp20 hA) rfl ?_
    refine V_if_eq (tgt := 40) dX8_reason_33 (by decide) (fun h33 => by first | exact absurd h33 ((by rw [w3_eq]; decide)) | exact absurd ((by rw [w3_eq]; decide)) h33) (fun _ => ?_)
    refine V_iconst (v := 0) dX8_reason_36 (by decide) ?_
    refine V_goto (tgt := 67) dX8_reason_37 (by decide) ?_
    refine V_iret dX8_reason_67 rfl (Nat.le_of_ble_eq_true rfl) (Nat.le_of_ble_eq_true rfl) ?_
    refine kfin2 ?_ rfl
    first
      | (simp [K_reason, *]; done)
      | (rw [w3_ne (by omega)]; simp [K_reason, *]; done)
      | (rw [w3_ne (by omega)]; simp_all [K_reason]; done)

def apS (σ : Sg) (tl : Nat) (x : Int32) : Sg := if 60 ≤ tl then w3 σ 20 0 6 1 else w3 (w3 (w3 σ 20 0 6 0) 25 0 tl x) 20 0 11 (nI (tl + 1))

set_option maxHeartbeats 4000000 in
set_option maxRecDepth 100000 in
theorem t_X8_append {D : va_G} {s0 : State} {l : Launch} {B : Nat} {A : AT} {σ : Sg} (hA : AOK B A) {tl : Nat} (ht : σ.1 20 0 11 = nI tl) (ht6 : tl ≤ 60) {x : Int32} : Tri D s0 l yX8_append cX8_append 2 ((some .int)) 0 0 0 [.ref (A 20 0 0), .int x] (HP A σ) (fun r G' => r = some (.int (K_append tl).2) ∧ G' = HP A (apS σ tl x)) noX := by
  refine Tri.ofV (own := RX8) (mn := "append") (by decide +kernel) rfl rfl (Nat.le_of_ble_eq_true rfl) ?_
  refine V_aload_n (i := 0) dX8_append_0 rfl rfl ?_
  refine V_aload_n (i := 0) dX8_append_1 rfl rfl ?_
  refine V_getf fl_X8_181 dX8_append_2 (hp20 hA) rfl ?_
  refine V_bipush (v := nI 60) dX8_append_5 (by decide) ?_
  refine V_icmp_ne (tgt := 14) dX8_append_7 (by decide) (fun h7 => ?_) (fun h7 => ?_)
  · have h60 : ¬ 60 ≤ tl := fun q => h7 (by rw [ht, show tl = 60 by omega])
    refine V_iconst (v := 0) dX8_append_14 (by decide) ?_
    refine VP_20_6 fl_X8_38 dX8_append_15 hA ?_
    refine V_aload_n (i := 0) dX8_append_18 rfl rfl ?_
    refine V_getf fl_X8_38 dX8_append_19 (hp20 hA) rfl ?_
    refine V_if_eq (tgt := 27) dX8_append_22 (by decide) (fun _ => ?_) (fun h22 => by first | exact absurd ((by rw [w3_eq]; decide)) h22 | exact absurd h22 ((by rw [w3_eq]; decide)))
    refine V_aload_n (i := 0) dX8_append_27 rfl rfl ?_
    refine V_getf fl_X8_22 dX8_append_28 (hp20 hA) rfl ?_
    refine V_aload_n (i := 0) dX8_append_31 rfl rfl ?_
    refine V_getf fl_X8_181 dX8_append_32 (hp20 hA) rfl ?_
    refine V_iload_n (i := 1) dX8_append_35 rfl rfl ?_
    refine VA_25 dX8_append_36 hA ((w3_ne (by omega)).trans ht) (by omega) ?_
    refine V_aload_n (i := 0) dX8_append_37 rfl rfl ?_
    refine V_dup dX8_append_38 rfl ?_
    refine V_getf fl_X8_181 dX8_append_39 (hp20 hA) rfl ?_
    refine V_iconst (v := 1) dX8_append_42 (by decide) ?_
    refine V_iadd dX8_append_43 ?_
    rw [show (w3 (w3 σ 20 0 6 0) 25 0 tl x).1 20 0 11 + 1 = nI (tl + 1) from by rw [w3_ne (by omega), w3_ne (by omega), ht]; exact nI_1 tl]
    refine VP_20_11 fl_X8_181 dX8_append_44 hA ?_
    refine V_aload_n (i := 0) dX8_append_47 rfl rfl ?_
    refine V_getf fl_X8_181 dX8_append_48 (hp20 hA) rfl ?_
    refine V_iret dX8_append_51 rfl (Nat.le_of_ble_eq_true rfl) (Nat.le_of_ble_eq_true rfl) ?_
    first
      | (rw [apS, if_pos h60, K_append, if_pos h60]; exact ⟨rfl, rfl⟩)
      | (rw [apS, if_neg h60, K_append, if_neg h60, w3_eq]; exact ⟨rfl, rfl⟩)
  · have h60 : 60 ≤ tl := by
      rw [ht, nI_eq (by omega) (by omega)] at h7
      omega
    refine V_iconst (v := 1) dX8_append_10 (by decide) ?_
    refine V_goto (tgt := 15) dX8_append_11 (by decide) ?_
    refine VP_20_6 fl_X8_38 dX8_append_15 hA ?_
    refine V_aload_n (i := 0) dX8_append_18 rfl rfl ?_
    refine V_getf fl_X8_38 dX8_append_19 (hp20 hA) rfl ?_
    refine V_if_eq (tgt := 27) dX8_append_22 (by decide) (fun h22 => by first | exact absurd h22 ((by rw [w3_eq]; decide)) | exact absurd ((by rw [w3_eq]; decide)) h22) (fun _ => ?_)
    refine V_iconst (v := 0) dX8_append_25 (by decide) ?_
    refine V_iret dX8_append_26 rfl (Nat.le_of_ble_eq_true rfl) (Nat.le_of_ble_eq_true rfl) ?_
    first
      | (rw [apS, if_pos h60, K_append, if_pos h60]; exact ⟨rfl, rfl⟩)
      | (rw [apS, if_neg h60, K_append, if_neg h60, w3_eq]; exact ⟨rfl, rfl⟩)

def undR (σ : Sg) (cn : Nat) : Sg := if cn = 0 then w3 σ 20 0 6 1 else row (w3 (w3 σ 20 0 6 0) 20 0 5 (nI (cn - 1))) 21 0 (blit (σ.1 21 0) 0 (σ.1 24 0) ((cn - 1) * 102) 102)
def savR (σ : Sg) : Sg := w3 (row (w3 σ 20 0 6 0) 23 0 (blit (σ.1 23 0) 0 (σ.1 21 0) 0 102)) 20 0 4 1
def resR (σ : Sg) : Sg := if σ.1 20 0 4 = 0 then w3 σ 20 0 6 1 else w3 (row (w3 σ 20 0 6 0) 21 0 (blit (σ.1 21 0) 0 (σ.1 23 0) 0 102)) 20 0 5 0

set_option maxHeartbeats 4000000 in
set_option maxRecDepth 100000 in
theorem t_X8_undo {D : va_G} {s0 : State} {l : Launch} {B : Nat} {A : AT} {σ : Sg} (hA : AOK B A) {cn : Nat} (hcn : σ.1 20 0 5 = nI cn) (hc8 : cn ≤ 8) : Tri D s0 l yX8_undo cX8_undo 1 ((some .int)) 1 0 0 [.ref (A 20 0 0)] (HP A σ) (fun r G' => r = some (.int (K_undo cn).2) ∧ G' = HP A (undR σ cn)) noX := by
  refine Tri.ofV (own := RX8) (mn := "undo") (by decide +kernel) rfl rfl (Nat.le_of_ble_eq_true rfl) ?_
  refine V_aload_n (i := 0) dX8_undo_0 rfl rfl ?_
  refine V_aload_n (i := 0) dX8_undo_1 rfl rfl ?_
  refine V_getf fl_X8_51 dX8_undo_2 (hp20 hA) rfl ?_
  refine V_if_ne (tgt := 12) dX8_undo_5 (by decide) (fun h5 => ?_) (fun h5 => ?_)
  · have h0 : ¬ cn = 0 := fun q => h5 (by rw [hcn, q]; rfl)
    refine V_iconst (v := 0) dX8_undo_12 (by decide) ?_
    refine VP_20_6 fl_X8_38 dX8_undo_13 hA ?_
    refine V_aload_n (i := 0) dX8_undo_16 rfl rfl ?_
    refine V_getf fl_X8_38 dX8_undo_17 (hp20 hA) rfl ?_
    refine V_if_eq (tgt := 25) dX8_undo_20 (by decide) (fun _ => ?_) (fun h20 => by first | exact absurd ((by rw [w3_eq]; decide)) h20 | exact absurd h20 ((by rw [w3_eq]; decide)))
    refine V_aload_n (i := 0) dX8_undo_25 rfl rfl ?_
    refine V_dup dX8_undo_26 rfl ?_
    refine V_getf fl_X8_51 dX8_undo_27 (hp20 hA) rfl ?_
    refine V_iconst (v := 1) dX8_undo_30 (by decide) ?_
    refine V_isub dX8_undo_31 ?_
    rw [show (w3 σ 20 0 6 0).1 20 0 5 - 1 = nI (cn - 1) from by rw [w3_ne (by omega), hcn]; exact pk_sub (a := cn) (b := 1) (by omega)]
    refine VP_20_5 fl_X8_51 dX8_undo_32 hA ?_
    refine V_aload_n (i := 0) dX8_undo_35 rfl rfl ?_
    refine V_getf fl_X8_19 dX8_undo_36 (hp20 hA) rfl ?_
    refine V_aload_n (i := 0) dX8_undo_39 rfl rfl ?_
    refine V_getf fl_X8_51 dX8_undo_40 (hp20 hA) rfl ?_
    refine V_bipush (v := nI 102) dX8_undo_43 (by decide) ?_
    refine V_imul dX8_undo_45 ?_
    refine V_aload_n (i := 0) dX8_undo_46 rfl rfl ?_
    refine V_getf fl_X8_9 dX8_undo_47 (hp20 hA) rfl ?_
    refine V_iconst (v := nI 0) dX8_undo_50 (by decide) ?_
    rw [show (w3 (w3 σ 20 0 6 0) 20 0 5 (nI (cn - 1))).1 20 0 5 * nI 102 = nI ((cn - 1) * 102) from by rw [w3_eq]; exact pk_mul _ _]
    refine Cs0_4 (d := 1) cs_X8_47 dX8_undo_51 (t_X8_copies_24_21 hA (by omega) (by decide)) (Nat.le_of_ble_eq_true rfl) ⟨Nat.le_refl _, Nat.le_refl _⟩ (by decide) ⟨Nat.le_of_ble_eq_true rfl, Nat.le_of_ble_eq_true rfl⟩ ?_
    refine V_aload_n (i := 0) dX8_undo_54 rfl rfl ?_
    refine V_getf fl_X8_51 dX8_undo_55 (hp20 hA) rfl ?_
    refine V_iret dX8_undo_58 rfl (Nat.le_of_ble_eq_true rfl) (Nat.le_of_ble_eq_true rfl) ?_
    first
      | (rw [undR, if_pos h0, K_undo, if_pos h0]; exact ⟨rfl, rfl⟩)
      | (rw [undR, if_neg h0, K_undo, if_neg h0]
         exact ⟨by rw [row_ne (by omega), w3_eq], rfl⟩)
  · have h0 : cn = 0 := by
      rw [hcn] at h5
      exact (nI_eq (by omega) (by decide)).mp h5
    refine V_iconst (v := 1) dX8_undo_8 (by decide) ?_
    refine V_goto (tgt := 13) dX8_undo_9 (by decide) ?_
    refine VP_20_6 fl_X8_38 dX8_undo_13 hA ?_
    refine V_aload_n (i := 0) dX8_undo_16 rfl rfl ?_
    refine V_getf fl_X8_38 dX8_undo_17 (hp20 hA) rfl ?_
    refine V_if_eq (tgt := 25) dX8_undo_20 (by decide) (fun h20 => by first | exact absurd h20 ((by rw [w3_eq]; decide)) | exact absurd ((by rw [w3_eq]; decide)) h20) (fun _ => ?_)
    refine V_iconst (v := 0) dX8_undo_23 (by decide) ?_
    refine V_iret dX8_undo_24 rfl (Nat.le_of_ble_eq_true rfl) (Nat.le_of_ble_eq_true rfl) ?_
    first
      | (rw [undR, if_pos h0, K_undo, if_pos h0]; exact ⟨rfl, rfl⟩)
      | (rw [undR, if_neg h0, K_undo, if_neg h0]
         exact ⟨by rw [row_ne (by omega), w3_eq], rfl⟩)

set_option maxHeartbeats 4000000 in
set_option maxRecDepth 100000 in
theorem t_X8_save {D : va_G} {s0 : State} {l : Launch} {B : Nat} {A : AT} {σ : Sg} (hA : AOK B A) : Tri D s0 l yX8_save cX8_save 1 ((some .int)) 1 0 0 [.ref (A 20 0 0)] (HP A σ) (fun r G' => r = some (.int (σ.1 21 0 0)) ∧ G' = HP A (savR σ)) noX := by
  refine Tri.ofV (own := RX8) (mn := "save") (by decide +kernel) rfl rfl (Nat.le_of_ble_eq_true rfl) ?_
  refine V_aload_n (i := 0) dX8_save_0 rfl rfl ?_
  refine V_iconst (v := 0) dX8_save_1 (by decide) ?_
  refine VP_20_6 fl_X8_38 dX8_save_2 hA ?_
  refine V_aload_n (i := 0) dX8_save_5 rfl rfl ?_
  refine V_getf fl_X8_9 dX8_save_6 (hp20 hA) rfl ?_
  refine V_iconst (v := nI 0) dX8_save_9 (by decide) ?_
  refine V_aload_n (i := 0) dX8_save_10 rfl rfl ?_
  refine V_getf fl_X8_16 dX8_save_11 (hp20 hA) rfl ?_
  refine V_iconst (v := nI 0) dX8_save_14 (by decide) ?_
  refine Cs0_4 (d := 1) cs_X8_47 dX8_save_15 (t_X8_copies_21_23 hA (by decide) (by decide)) (Nat.le_of_ble_eq_true rfl) ⟨Nat.le_refl _, Nat.le_refl _⟩ (by decide) ⟨Nat.le_of_ble_eq_true rfl, Nat.le_of_ble_eq_true rfl⟩ ?_
  refine V_aload_n (i := 0) dX8_save_18 rfl rfl ?_
  refine V_iconst (v := 1) dX8_save_19 (by decide) ?_
  refine VP_20_4 fl_X8_70 dX8_save_20 hA (Or.inr rfl) ?_
  refine V_aload_n (i := 0) dX8_save_23 rfl rfl ?_
  refine V_getf fl_X8_9 dX8_save_24 (hp20 hA) rfl ?_
  refine V_iconst (v := nI 0) dX8_save_27 (by decide) ?_
  refine V_iald9 dX8_save_28 (hp21 hA) rfl (by omega) (by decide) rfl ?_
  refine V_iret dX8_save_29 rfl (Nat.le_of_ble_eq_true rfl) (Nat.le_of_ble_eq_true rfl) ?_
  exact ⟨by rw [w3_ne (by omega), row_ne (by omega), w3_ne (by omega)], rfl⟩

set_option maxHeartbeats 4000000 in
set_option maxRecDepth 100000 in
theorem t_X8_restore {D : va_G} {s0 : State} {l : Launch} {B : Nat} {A : AT} {σ : Sg} (hA : AOK B A) : Tri D s0 l yX8_restore cX8_restore 1 ((some .int)) 1 0 0 [.ref (A 20 0 0)] (HP A σ) (fun r G' => r = some (.int (K_restore (σ.1 20 0 4) (σ.1 23 0 0)).2) ∧ G' = HP A (resR σ)) noX := by
  refine Tri.ofV (own := RX8) (mn := "restore") (by decide +kernel) rfl rfl (Nat.le_of_ble_eq_true rfl) ?_
  refine V_aload_n (i := 0) dX8_restore_0 rfl rfl ?_
  refine V_aload_n (i := 0) dX8_restore_1 rfl rfl ?_
  refine V_getf fl_X8_70 dX8_restore_2 (hp20 hA) rfl ?_
  refine V_if_eq (tgt := 12) dX8_restore_5 (by decide) (fun h5 => ?_) (fun h5 => ?_)
  · refine V_iconst (v := 1) dX8_restore_12 (by decide) ?_
    refine VP_20_6 fl_X8_38 dX8_restore_13 hA ?_
    refine V_aload_n (i := 0) dX8_restore_16 rfl rfl ?_
    refine V_getf fl_X8_38 dX8_restore_17 (hp20 hA) rfl ?_
    refine V_if_eq (tgt := 25) dX8_restore_20 (by decide) (fun h20 => by first | exact absurd h20 ((by rw [w3_eq]; decide)) | exact absurd ((by rw [w3_eq]; decide)) h20) (fun _ => ?_)
    refine V_iconst (v := 0) dX8_restore_23 (by decide) ?_
    refine V_iret dX8_restore_24 rfl (Nat.le_of_ble_eq_true rfl) (Nat.le_of_ble_eq_true rfl) ?_
    first
      | (rw [resR, if_pos h5, K_restore, if_pos h5]; exact ⟨rfl, rfl⟩)
      | (rw [resR, if_neg h5, K_restore, if_neg h5]
         refine ⟨?_, rfl⟩
         rw [w3_ne (by omega), row_at]
         rfl)
  · refine V_iconst (v := 0) dX8_restore_8 (by decide) ?_
    refine V_goto (tgt := 13) dX8_restore_9 (by decide) ?_
    refine VP_20_6 fl_X8_38 dX8_restore_13 hA ?_
    refine V_aload_n (i := 0) dX8_restore_16 rfl rfl ?_
    refine V_getf fl_X8_38 dX8_restore_17 (hp20 hA) rfl ?_
    refine V_if_eq (tgt := 25) dX8_restore_20 (by decide) (fun _ => ?_) (fun h20 => by first | exact absurd ((by rw [w3_eq]; decide)) h20 | exact absurd h20 ((by rw [w3_eq]; decide)))
    refine V_aload_n (i := 0) dX8_restore_25 rfl rfl ?_
    refine V_getf fl_X8_16 dX8_restore_26 (hp20 hA) rfl ?_
    refine V_iconst (v := nI 0) dX8_restore_29 (by decide) ?_
    refine V_aload_n (i := 0) dX8_restore_30 rfl rfl ?_
    refine V_getf fl_X8_9 dX8_restore_31 (hp20 hA) rfl ?_
    refine V_iconst (v := nI 0) dX8_restore_34 (by decide) ?_
    refine Cs0_4 (d := 1) cs_X8_47 dX8_restore_35 (t_X8_copies_23_21 hA (by decide) (by decide)) (Nat.le_of_ble_eq_true rfl) ⟨Nat.le_refl _, Nat.le_refl _⟩ (by decide) ⟨Nat.le_of_ble_eq_true rfl, Nat.le_of_ble_eq_true rfl⟩ ?_
    refine V_aload_n (i := 0) dX8_restore_38 rfl rfl ?_
    refine V_iconst (v := 0) dX8_restore_39 (by decide) ?_
    refine VP_20_5 fl_X8_51 dX8_restore_40 hA ?_
    refine V_aload_n (i := 0) dX8_restore_43 rfl rfl ?_
    refine V_getf fl_X8_9 dX8_restore_44 (hp20 hA) rfl ?_
    refine V_iconst (v := nI 0) dX8_restore_47 (by decide) ?_
    refine V_iald9 dX8_restore_48 (hp21 hA) rfl (by omega) (by decide) rfl ?_
    refine V_iret dX8_restore_49 rfl (Nat.le_of_ble_eq_true rfl) (Nat.le_of_ble_eq_true rfl) ?_
    first
      | (rw [resR, if_pos h5, K_restore, if_pos h5]; exact ⟨rfl, rfl⟩)
      | (rw [resR, if_neg h5, K_restore, if_neg h5]
         refine ⟨?_, rfl⟩
         rw [w3_ne (by omega), row_at]
         rfl)
