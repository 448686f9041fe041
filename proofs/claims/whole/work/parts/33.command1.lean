/-! commands: the class carries them out -/
/-- the houses' and the carriers' numbers stay -/
theorem S_cmd_12 {w : Nat → Int32} {nh nc pl q j : Nat} {a b : Int32} (hc : nc ≤ 4) (hn : nh ≤ 8) (hp : pl ≤ 8) (hj : j = 1 ∨ j = 2) : (S_cmd w nh nc pl q a b).2.2 j = w j := by
  have j14 : j < 14 := by omega
  rcases q with _ | _ | _ | _ | _ | _ | _ | q
  · show (S_drive w nh a).2.2 j = w j
    unfold S_drive S_drive_w S_up
    repeat' split
    all_goals first | rfl | skip
    all_goals (dsimp only; rw [up_ne (by omega), up_ne (by omega), S_upw_lo (by omega)])
  · show (S_load w a).2.2 j = w j
    unfold S_load S_load_w
    repeat' split
    all_goals first | rfl | skip
    all_goals (dsimp only; rw [up_ne (by omega), up_ne (by omega)])
  · show (S_carry w nc pl a b).2.2 j = w j
    unfold S_carry S_carry_w
    repeat' split
    all_goals first | rfl | skip
    all_goals (dsimp only; rw [up_ne (by omega), S_sks_lo (by omega) j14])
  · show (S_bone w pl).2.2 j = w j
    unfold S_bone S_bone_w
    repeat' split
    all_goals first | rfl | skip
    all_goals (dsimp only; rw [up_ne (by omega), up_lo j14])
  · show (S_mop w nc pl a).2.2 j = w j
    unfold S_mop S_mop_w
    repeat' split
    all_goals first | rfl | skip
    all_goals (dsimp only; rw [up_lo j14, up_lk j14])
  · show (S_pay w nh a b).2.2 j = w j
    unfold S_pay S_pay_w
    repeat' split
    all_goals first | rfl | skip
    all_goals (dsimp only; rw [up_ne (by omega), up_ne (by omega), up_lo j14])
  · show (S_shoe w a).2.2 j = w j
    unfold S_shoe S_shoe_w
    repeat' split
    all_goals first | rfl | skip
    all_goals (dsimp only; rw [up_ne (by omega), up_ne (by omega)])
  · show (S_days w nh nc a).2.2 j = w j
    unfold S_days
    repeat' split
    all_goals first | rfl | skip
    all_goals exact S_dys_lo j14 (by omega) _
/-- where the cart stands -/
def pW (w : Nat → Int32) : Nat := (w 3).toNatClampNeg
/-- commands, one after another, until one is refused: why, which, the street -/
def gS (nh nc : Nat) : List CL → Nat → (Nat → Int32) → (Int32 × Int32) × Nat × (Nat → Int32)
  | [], i, w => ((0, 0), i, w)
  | c :: L, i, w => if (S_cmd w nh nc (pW w) c.1 c.2.1 c.2.2).1.1 = 0 then gS nh nc L (i + 1) (S_cmd w nh nc (pW w) c.1 c.2.1 c.2.2).2.2 else ((S_cmd w nh nc (pW w) c.1 c.2.1 c.2.2).1, i, w)
def allS (σ : Sg) (g : (Int32 × Int32) × Nat × (Nat → Int32)) : Sg := if g.1.1 = 0 then row σ 5 0 g.2.2 else w3 (rfz (row σ 5 0 g.2.2) g.1.1 g.1.2) 2 0 2 (nI g.2.1)
theorem drop_c {L : List CL} {i : Nat} (h : i < L.length) : L.drop i = L.getD i (0, 0, 0) :: L.drop (i + 1) := by
  rw [List.drop_eq_getElem_cons h, List.getD_eq_getElem?_getD, List.getElem?_eq_getElem h]
  rfl
theorem wA_ne {S : ST} (h : S.1.1 = 0) (hne : S.1.1 = 0 → ¬ S.2.1 = -1) : ¬ wA S = -1 := by
  rw [wA, if_pos h]
  exact hne h
theorem wA_no {S : ST} (h : ¬ S.1.1 = 0) : wA S = -1 := if_neg h
theorem wS_y {σ : Sg} {w : Nat → Int32} {S : ST} (h : S.1.1 = 0) : wS (row σ 5 0 w) S = row σ 5 0 S.2.2 := by
  rw [wS, if_pos h, row_row]
theorem wS_no {σ : Sg} {S : ST} (h : ¬ S.1.1 = 0) : wS σ S = rfz σ S.1.1 S.1.2 := if_neg h
theorem kK {w : Nat → Int32} {pl : Nat} (h : w 3 = nI pl) (hp : pl ≤ 8) : pW w = pl := by
  rw [pW, h, nI_clamp (by omega)]
theorem lf_y {A : AT} {σ : Sg} {w : Nat → Int32} {g : (Int32 × Int32) × Nat × (Nat → Int32)} {i : Nat} (h : g = ((0, 0), i, w)) : some (Value.int 1) = some (.int (bi (decide (g.1.1 = 0)))) ∧ HP A (row σ 5 0 w) = HP A (allS σ g) := by
  subst h
  exact ⟨rfl, rfl⟩
theorem lf_n {A : AT} {σ : Sg} {w : Nat → Int32} {g : (Int32 × Int32) × Nat × (Nat → Int32)} {i : Nat} {S : ST} (hS : ¬ S.1.1 = 0) (h : g = (S.1, i, w)) : some (Value.int 0) = some (.int (bi (decide (g.1.1 = 0)))) ∧ HP A (w3 (wS (row σ 5 0 w) S) 2 0 2 (nI i)) = HP A (allS σ g) := by
  subst h
  refine ⟨?_, ?_⟩
  · have e : decide (S.1.1 = 0) = false := decide_eq_false hS
    show some (Value.int 0) = some (.int (bi (decide (S.1.1 = 0))))
    rw [e]
    rfl
  · rw [wS_no hS]
    show _ = HP A (if S.1.1 = 0 then _ else _)
    rw [if_neg hS]

set_option maxHeartbeats 4000000 in
set_option maxRecDepth 100000 in
theorem t_X7_allCarriedOut {D : va_G} {s0 : State} {l : Launch} {B : Nat} {A : AT} {σ : Sg} (hA : AOK B A) {nh : Nat} (h1 : σ.1 5 0 1 = nI nh) (hn : nh ≤ 8) {nc : Nat} (h2 : σ.1 5 0 2 = nI nc) (hm : nc ≤ 4) {m : Nat} (hm1 : m ≤ 1000) (hW : Wok m (σ.1 5 0)) {L : List CL} (hk : ∀ i, i < L.length → (L.getD i (0, 0, 0)).1 < 8) (hL1 : σ.1 11 0 1 = nI L.length) (hL2 : HLc σ L) (hL3 : L.length ≤ 30) : Tri D s0 l yX7_allCarriedOut cX7_allCarriedOut 2 ((some .boolean)) 5 0 0 [.ref (A 0 0 0)] (HP A σ) (fun r G' => r = some (.int (bi (decide ((gS nh nc L 0 (σ.1 5 0)).1.1 = 0)))) ∧ G' = HP A (allS σ (gS nh nc L 0 (σ.1 5 0)))) noX := by
  refine Tri.ofV (own := RX7) (mn := "allCarriedOut") (by decide +kernel) rfl rfl (Nat.le_of_ble_eq_true rfl) ?_
  have loop : ∀ (n i : Nat) (w : Nat → Int32), i + n = L.length → Wok m w → w 1 = nI nh → w 2 = nI nc → (gS nh nc L 0 (σ.1 5 0)) = gS nh nc (L.drop i) i w → V D s0 RX7 "allCarriedOut" cX7_allCarriedOut 2 ((some .boolean)) [] l (rmd 5 0 0) (Zm D s0 0 0 (fun r G' => r = some (.int (bi (decide ((gS nh nc L 0 (σ.1 5 0)).1.1 = 0)))) ∧ G' = HP A (allS σ (gS nh nc L 0 (σ.1 5 0)))) noX) 2 [(0, .ref (A 0 0 0)), (1, .int (nI i))] [] (HP A (row σ 5 0 w)) 0 0 := by
    intro n
    induction n with
    | zero =>
      intro i w hi9 hW e1 e2 hg
      have hg2 : gS nh nc L 0 (σ.1 5 0) = ((0, 0), i, w) := by
        rw [hg, List.drop_eq_nil_of_le (by omega)]
        rfl
      refine V_iload_n (i := 1) dX7_allCarriedOut_2 rfl rfl ?_
      refine V_aload_n (i := 0) dX7_allCarriedOut_3 rfl rfl ?_
      refine V_getf fl_X7_44 dX7_allCarriedOut_4 (hp0 hA) rfl ?_
      refine V_getf fl_X7_226 dX7_allCarriedOut_7 (hp11 hA) rfl ?_
      refine V_icmp_ge (tgt := 73) dX7_allCarriedOut_10 (by decide) (fun _ => ?_) (fun h10 => by first | exact absurd ((by rw [row_ne (by omega), hL1]; exact nI_le (by omega) (by omega))) h10 | exact absurd h10 ((by rw [row_ne (by omega), hL1]; exact nI_le (by omega) (by omega))))
      refine V_iconst (v := 1) dX7_allCarriedOut_73 (by decide) ?_
      refine V_zret dX7_allCarriedOut_74 rfl (by first | rfl | exact bi_n _) (Nat.le_of_ble_eq_true rfl) (Nat.le_of_ble_eq_true rfl) ?_
      exact lf_y hg2
    | succ n ih =>
      intro i w hi9 hW e1 e2 hg
      have hi8 : i < L.length := by omega
      obtain ⟨k1, k2, k3⟩ := hL2 i hi8
      have k0 := hk i hi8
      rw [drop_c hi8] at hg
      generalize L.getD i (0, 0, 0) = c at hg k0 k1 k2 k3
      obtain ⟨hWb, nh9, nc9, pl, f1, f2, f3, f4, f5, f6⟩ := hW
      obtain rfl : nh9 = nh := (nI_eq (by omega) (by omega)).mp (f1.symm.trans e1)
      have hpw : pW w = pl := kK f5 (by omega)
      rw [gS, hpw] at hg
      have hC := C_cmd (q := c.1) (x := c.2.1) (n := c.2.2) hm1 hWb e1 f2 e2 hm f5 f6
      have r1 : (row σ 5 0 w).1 13 0 i = nI c.1 := by rw [row_ne (by omega)]; exact k1
      have r2 : (row σ 5 0 w).1 14 0 i = c.2.1 := by rw [row_ne (by omega)]; exact k2
      have r3 : (row σ 5 0 w).1 15 0 i = c.2.2 := by rw [row_ne (by omega)]; exact k3
      have ld : i < 30 := by omega
      refine V_iload_n (i := 1) dX7_allCarriedOut_2 rfl rfl ?_
      refine V_aload_n (i := 0) dX7_allCarriedOut_3 rfl rfl ?_
      refine V_getf fl_X7_44 dX7_allCarriedOut_4 (hp0 hA) rfl ?_
      refine V_getf fl_X7_226 dX7_allCarriedOut_7 (hp11 hA) rfl ?_
      refine V_icmp_ge (tgt := 73) dX7_allCarriedOut_10 (by decide) (fun h10 => by first | exact absurd h10 ((by rw [row_ne (by omega), hL1]; exact nI_ge (by omega) (by omega))) | exact absurd ((by rw [row_ne (by omega), hL1]; exact nI_ge (by omega) (by omega))) h10) (fun _ => ?_)
      refine V_iload_n (i := 1) dX7_allCarriedOut_13 rfl rfl ?_
      refine V_bipush (v := nI 30) dX7_allCarriedOut_14 (by decide) ?_
      refine V_icmp_ge (tgt := 73) dX7_allCarriedOut_16 (by decide) (fun h16 => by first | exact absurd h16 (nI_ge (by omega) (by omega)) | exact absurd (nI_ge (by omega) (by omega)) h16) (fun _ => ?_)
      refine V_aload_n (i := 0) dX7_allCarriedOut_19 rfl rfl ?_
      refine V_getf fl_X7_10 dX7_allCarriedOut_20 (hp0 hA) rfl ?_
      refine V_aload_n (i := 0) dX7_allCarriedOut_23 rfl rfl ?_
      refine V_getf fl_X7_44 dX7_allCarriedOut_24 (hp0 hA) rfl ?_
      refine V_getf fl_X7_315 dX7_allCarriedOut_27 (hp11 hA) rfl ?_
      refine V_iload_n (i := 1) dX7_allCarriedOut_30 rfl rfl ?_
      refine V_iald9 dX7_allCarriedOut_31 (hp13 hA) rfl (by omega) (by decide) (congrArg Value.int r1) ?_
      refine V_aload_n (i := 0) dX7_allCarriedOut_32 rfl rfl ?_
      refine V_getf fl_X7_44 dX7_allCarriedOut_33 (hp0 hA) rfl ?_
      refine V_getf fl_X7_318 dX7_allCarriedOut_36 (hp11 hA) rfl ?_
      refine V_iload_n (i := 1) dX7_allCarriedOut_39 rfl rfl ?_
      refine V_iald9 dX7_allCarriedOut_40 (hp14 hA) rfl (by omega) (by decide) (congrArg Value.int r2) ?_
      refine V_aload_n (i := 0) dX7_allCarriedOut_41 rfl rfl ?_
      refine V_getf fl_X7_44 dX7_allCarriedOut_42 (hp0 hA) rfl ?_
      refine V_getf fl_X7_321 dX7_allCarriedOut_45 (hp11 hA) rfl ?_
      refine V_iload_n (i := 1) dX7_allCarriedOut_48 rfl rfl ?_
      refine V_iald9 dX7_allCarriedOut_49 (hp15 hA) rfl (by omega) (by decide) (congrArg Value.int r3) ?_
      refine Cv1_3 (d := 5) cv_X7_324 dX7_allCarriedOut_50 (t_X6_carryOut hA (by rw [row_at]; exact e1) f2 (by rw [row_at]; exact e2) hm (by rw [row_at]; exact f5) f6 k0) (hp1 hA) rfl rfl (Nat.le_of_ble_eq_true rfl) ⟨Nat.le_refl _, Nat.le_refl _⟩ (by decide) ⟨Nat.le_of_ble_eq_true rfl, Nat.le_of_ble_eq_true rfl⟩ ?_
      rw [row_at]
      by_cases hS : (S_cmd w nh9 nc pl c.1 c.2.1 c.2.2).1.1 = 0
      · rw [if_pos hS] at hg
        refine V_iconst (v := (-1)) dX7_allCarriedOut_53 (by decide) ?_
        refine V_icmp_ne (tgt := 67) dX7_allCarriedOut_54 (by decide) (fun _ => ?_) (fun h54 => by first | exact absurd (wA_ne hS hC.hne) h54 | exact absurd h54 (wA_ne hS hC.hne))
        refine V_iinc (i := 1) dX7_allCarriedOut_67 rfl (inc1 _) (by decide) ?_
        refine V_goto (tgt := 2) dX7_allCarriedOut_70 (by decide) ?_
        refine V.fin [1, 0] rfl (congrArg (HP A) (wS_y hS)) (ih (i + 1) (S_cmd w nh9 nc pl c.1 c.2.1 c.2.2).2.2 (by omega) (hC hS).1 ((S_cmd_12 hm f2 (by omega) (Or.inl rfl)).trans e1) ((S_cmd_12 hm f2 (by omega) (Or.inr rfl)).trans e2) hg)
      · rw [if_neg hS] at hg
        refine V_iconst (v := (-1)) dX7_allCarriedOut_53 (by decide) ?_
        refine V_icmp_ne (tgt := 67) dX7_allCarriedOut_54 (by decide) (fun h54 => by first | exact absurd h54 ((fun z => z (wA_no hS))) | exact absurd ((fun z => z (wA_no hS))) h54) (fun _ => ?_)
        refine V_aload_n (i := 0) dX7_allCarriedOut_57 rfl rfl ?_
        refine V_getf fl_X7_25 dX7_allCarriedOut_58 (hp0 hA) rfl ?_
        refine V_iload_n (i := 1) dX7_allCarriedOut_61 rfl rfl ?_
        refine VP_2_2 fl_X7_241 dX7_allCarriedOut_62 hA ?_
        refine V_iconst (v := 0) dX7_allCarriedOut_65 (by decide) ?_
        refine V_zret dX7_allCarriedOut_66 rfl (by first | rfl | exact bi_n _) (Nat.le_of_ble_eq_true rfl) (Nat.le_of_ble_eq_true rfl) ?_
        exact lf_n hS hg
  refine V_iconst (v := nI 0) dX7_allCarriedOut_0 (by decide) ?_
  refine V_istore_n (i := 1) dX7_allCarriedOut_1 rfl (by decide) ?_
  refine V.fin [1, 0] rfl (congrArg (HP A) row_self.symm) (loop L.length 0 (σ.1 5 0) (by omega) hW h1 h2 rfl)

