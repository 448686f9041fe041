/-! the law: the mean and the share -/
theorem sd_cg {B : Nat} {A : AT} {σ τ : Sg} {v : UInt64} (hA : AOK B A) (e : HP A σ = HP A τ) : HP A (sd σ v) = HP A (sd τ v) := by
  have g : ∀ ρ : Sg, HP A (sd ρ v) = gset (HP A ρ) (A 31 0 0) (cellT A (sd ρ v) 31 0 0) := fun ρ => by
    refine (HP_put (σ := ρ) (σ' := sd ρ v) hA vl_31 rfl (fun kd' k' i' hv hn => ?_) rfl).symm
    unfold cellT sd
    split <;> first | rfl | skip
    exact absurd (by simpa [vl] using hv) (fun z => hn ⟨rfl, z⟩)
  have c := (hp31 (σ := σ) hA).symm.trans ((congrFun e _).trans (hp31 (σ := τ) hA))
  have c2 : (fun j => Value.double (σ.2.2.1 j)) = fun j => Value.double (τ.2.2.1 j) := by
    injection c with c
    injection c with c
    injection c with _ c
    injection c with _ c
  have c3 : cellT A (sd σ v) 31 0 0 = cellT A (sd τ v) 31 0 0 := by
    show (Sum.inr (FieldType.double, 1, fun j => Value.double (if j = 0 then v else σ.2.2.1 j)) : EC) = Sum.inr (FieldType.double, 1, fun j => Value.double (if j = 0 then v else τ.2.2.1 j))
    refine congrArg (fun z => (Sum.inr (FieldType.double, 1, z) : EC)) (funext fun j => ?_)
    by_cases hj : j = 0
    · rw [if_pos hj, if_pos hj]
    · rw [if_neg hj, if_neg hj]
      exact congrFun c2 j
  rw [g σ, g τ, e, c3]
theorem mean_w {w : Nat → Int32} {nh : Nat} (h : ¬ w 1 = 0) : FP.Core.fIsNaN (meanV w nh) = false := by
  unfold meanV
  rw [if_neg h]
  exact mean_nn h
theorem share_w {w : Nat → Int32} {nh : Nat} (h : ¬ w 7 + S_sum w nh 4 = 0) : Op.cmpValue (FP.dcmp (shareV w nh) (shareV w nh)) .l = 0 := by
  unfold shareV
  rw [if_neg h]
  have hv := ddiv_n (x := w 7) h
  unfold vf_n64 at hv
  rw [UInt64.le_iff_toNat_le, b63] at hv
  have e : (0x7ff0000000000000 : UInt64).toNat = 9218868437227405312 := by decide
  rw [e] at hv
  have hn : FP.Core.dIsNaN (FP.ddiv (FP.i2d (w 7)) (FP.i2d (w 7 + S_sum w nh 4))) = false := by
    cases q : FP.Core.dIsNaN (FP.ddiv (FP.i2d (w 7)) (FP.i2d (w 7 + S_sum w nh 4))) with
    | false => rfl
    | true =>
      have := (FP.Core.isNaN_bits _).mp q
      omega
  have e2 : FP.dcmp (FP.ddiv (FP.i2d (w 7)) (FP.i2d (w 7 + S_sum w nh 4))) (FP.ddiv (FP.i2d (w 7)) (FP.i2d (w 7 + S_sum w nh 4))) = some .eq := FP.Core.dcmp_self ((FP.Core.notNaN_iff _).mp hn)
  rw [e2]
  rfl
theorem k01 {p : Prop} [Decidable p] : (if p then (1 : Int32) else 0) = nI (if p then 1 else 0) := by
  split <;> rfl
theorem k01b {p : Prop} [Decidable p] : (if p then 1 else 0) < 1000 := by
  split <;> decide
set_option maxHeartbeats 2000000 in
theorem lc_meanArrears {D : va_G} {s0 : State} {mn : String} {nL : Nat} {ret : Option FieldType} {hh : List (Nat × Nat × Nat × Nat)} {l : Launch} {R : Room} {Z : ZT} {A : AT} {b0 L i : Nat} {xs : Nat → Int32} {cells slots m : Nat} {σ : Sg} (hl : l.stackTraces = false) (hA : AOK s0.heap.size A) (H : LH s0 R nL b0 L i xs cells slots) (hm9 : m ≤ 600) (iv : IV A m σ) (kk : ∀ σ2 : Sg, IV A (m + 1) σ2 → V D s0 RL mn cL_law nL ret hh l R Z 2081 (LO A b0 i) [] (HP A σ2) (cells + 24) (slots + 816)) : V D s0 RL mn cL_law nL ret hh l R Z 1793 (LO A b0 i) [] (HP A σ) cells slots := by
  have iv9 := iv
  obtain ⟨nx, w, cn, h, sf, sv, rr, tl, tx, ft, T, c, q, mi, sb⟩ := iv
  have ew := c.1
  subst ew
  have hW := mi.1.wok
  have bo := mi.1.bo
  obtain ⟨hb, nh, nc, pl, ⟨h1, hn⟩, ⟨h2, hc⟩, ⟨h3, hp⟩, hd⟩ := mi.1
  obtain ⟨hnx, hx9, hcn, hc8⟩ := c.2.1
  obtain ⟨hT, hL, hi, hnL, hR, hc9, hs9⟩ := H
  refine V_aload_n (i := 1) dL_law_1793 rfl rfl ?_
  refine V_aload (i := 4) dL_law_1794 rfl ?_
  refine V_callsH (d := 12) csh_L_229 dL_law_1796 (t_L_meanArrears hA (d := 10) (t_X7_meanArrears hA hl h1 hn) (fun r G' z => ⟨σ, _, z.2.1, mean_v (mean_w z.1), z.2.2⟩) (fun E G' z => ⟨z.2.1, σ, z.2.2⟩) (by decide)) rfl rfl (Nat.le_of_ble_eq_true rfl) ⟨by omega, by omega⟩ (by decide) ⟨by omega, by omega⟩ (fun r G' z => ?_) (fun _ _ z => z.elim)
  have z2 : ∃ (k : Nat) (σ1 : Sg), r = some (.int (nI k)) ∧ G' = HP A σ1 ∧ k = (if σ.1 5 0 1 = 0 then 1 else 0) ∧ σ1.1 = σ.1 ∧ σ1.2.2.2 = σ.2.2.2 ∧ (k = 0 → ¬ σ.1 5 0 1 = 0 ∧ σ1.2.2.1 0 = (FP.f2d (meanV (σ.1 5 0) nh))) := by
    rcases z with ⟨σ1, v, ⟨h0, hv, e⟩, rfl, rfl⟩ | ⟨σ1, ⟨h0, -, e⟩, rfl, rfl⟩
    · injection hv with hv
      injection hv with hv
      subst hv
      exact ⟨0, sd σ _, rfl, sd_cg hA e, (if_neg h0).symm, rfl, rfl, fun _ => ⟨h0, rfl⟩⟩
    · exact ⟨1, σ, rfl, e, (if_pos h0).symm, rfl, rfl, fun z => absurd z (by decide)⟩
  obtain ⟨k, σ1, rfl, rfl, hk, ee, ee2, hk0⟩ := z2
  have hk9 : k < 1000 := by
    rw [hk]
    exact k01b
  have e21 : σ1.1 21 0 = σ.1 5 0 := (congrFun (congrFun ee 21) 0).trans q.1
  have M := Tri.qs (t_X8_meanArrears (D := D) (s0 := s0) (l := l) (σ := σ1) hA (P := (σ1.1 20 0 15, σ1.1 20 0 16)) (u := σ1.1 21 0) ((congrFun e21 1).trans h1) hn)
  rw [e21] at M
  have hIV : IV A (m + 1) (tS σ1 (if σ.1 5 0 1 = 0 then 1 else 0)) := (iv9.e ee ee2).t
  refine V_istore (i := 6) dL_law_1799 (by omega) ?_
  refine V_aload_n (i := 2) dL_law_1801 rfl rfl ?_
  refine Cv1_0 (d := 12) cv_L_232 dL_law_1802 M (hp20 hA) rfl rfl (Nat.le_of_ble_eq_true rfl) ⟨by omega, by omega⟩ (by decide) ⟨by omega, by omega⟩ ?_
  refine V_fstore (i := 7) dL_law_1805 (by omega) ?_
  refine V_aload_n (i := 2) dL_law_1807 rfl rfl ?_
  refine Cv1_0 (d := 12) cv_L_132 dL_law_1808 (t_X8_thrown hA) (hp20 hA) rfl rfl (Nat.le_of_ble_eq_true rfl) ⟨by omega, by omega⟩ (by decide) ⟨by omega, by omega⟩ ?_
  refine V_iload (i := 6) dL_law_1811 rfl ?_
  refine V_icmp_eq (tgt := 1818) dL_law_1813 (by decide) (fun _ => ?_) (fun h => absurd ((w3_eq _ _ _ _ _).trans (k01.trans (congrArg nI hk.symm))) h)
  refine V_iload (i := 6) dL_law_1818 rfl ?_
  refine V_if_ne (tgt := 1856) dL_law_1820 (by decide) (fun _ => ?_) (fun h => ?_)
  · refine V_goto (tgt := 2081) dL_law_1856 (by decide) ?_
    refine V.wid (k := cells + 24) (n := slots + 816) (by omega) (by omega) ?_
    exact V.fin [2, 3, 4, 5, 6, 7] rfl rfl (kk _ hIV)
  · obtain ⟨hc0, hv0⟩ := hk0 ((nIz hk9).mp h)
    refine V_aload (i := 4) dL_law_1823 rfl ?_
    refine V_iconst (v := 0) dL_law_1825 (by decide) ?_
    refine V_dald (x := (FP.f2d (meanV (σ.1 5 0) nh))) dL_law_1826 (hp31 hA) (vp_in_nI (n := 0) (N := 1) (by decide) (by decide)) (congrArg Value.double hv0) ?_
    refine V_fload (i := 7) dL_law_1827 rfl ?_
    refine V_f2d dL_law_1829 (mean_v (mean_w hc0)) ?_
    refine V_dcmp dL_law_1830 ?_
    refine V_if_eq (tgt := 1856) dL_law_1831 (by decide) (fun _ => ?_) (fun h => absurd (mean_c (mean_w hc0)) h)
    refine V_goto (tgt := 2081) dL_law_1856 (by decide) ?_
    refine V.wid (k := cells + 24) (n := slots + 816) (by omega) (by omega) ?_
    exact V.fin [2, 3, 4, 5, 6, 7] rfl rfl (kk _ hIV)

set_option maxHeartbeats 2000000 in
theorem lc_paidShare {D : va_G} {s0 : State} {mn : String} {nL : Nat} {ret : Option FieldType} {hh : List (Nat × Nat × Nat × Nat)} {l : Launch} {R : Room} {Z : ZT} {A : AT} {b0 L i : Nat} {xs : Nat → Int32} {cells slots m : Nat} {σ : Sg} (hl : l.stackTraces = false) (hA : AOK s0.heap.size A) (H : LH s0 R nL b0 L i xs cells slots) (hm9 : m ≤ 600) (iv : IV A m σ) (kk : ∀ σ2 : Sg, IV A (m + 1) σ2 → V D s0 RL mn cL_law nL ret hh l R Z 2081 (LO A b0 i) [] (HP A σ2) (cells + 24) (slots + 816)) : V D s0 RL mn cL_law nL ret hh l R Z 1859 (LO A b0 i) [] (HP A σ) cells slots := by
  have iv9 := iv
  obtain ⟨nx, w, cn, h, sf, sv, rr, tl, tx, ft, T, c, q, mi, sb⟩ := iv
  have ew := c.1
  subst ew
  have hW := mi.1.wok
  have bo := mi.1.bo
  obtain ⟨hb, nh, nc, pl, ⟨h1, hn⟩, ⟨h2, hc⟩, ⟨h3, hp⟩, hd⟩ := mi.1
  obtain ⟨hnx, hx9, hcn, hc8⟩ := c.2.1
  obtain ⟨hT, hL, hi, hnL, hR, hc9, hs9⟩ := H
  refine V_aload_n (i := 1) dL_law_1859 rfl rfl ?_
  refine V_aload (i := 4) dL_law_1860 rfl ?_
  refine V_callsH (d := 12) csh_L_233 dL_law_1862 (t_L_paidShare hA (d := 10) (t_X7_paidShare hA hl h1 hn) (fun r G' z => ⟨σ, _, z.2.1, z.2.2⟩) (fun E G' z => ⟨z.2.1, σ, z.2.2⟩) (by decide)) rfl rfl (Nat.le_of_ble_eq_true rfl) ⟨by omega, by omega⟩ (by decide) ⟨by omega, by omega⟩ (fun r G' z => ?_) (fun _ _ z => z.elim)
  have z2 : ∃ (k : Nat) (σ1 : Sg), r = some (.int (nI k)) ∧ G' = HP A σ1 ∧ k = (if σ.1 5 0 7 + S_sum (σ.1 5 0) nh 4 = 0 then 1 else 0) ∧ σ1.1 = σ.1 ∧ σ1.2.2.2 = σ.2.2.2 ∧ (k = 0 → ¬ σ.1 5 0 7 + S_sum (σ.1 5 0) nh 4 = 0 ∧ σ1.2.2.1 0 = (shareV (σ.1 5 0) nh)) := by
    rcases z with ⟨σ1, v, ⟨h0, hv, e⟩, rfl, rfl⟩ | ⟨σ1, ⟨h0, -, e⟩, rfl, rfl⟩
    · injection hv with hv
      injection hv with hv
      subst hv
      exact ⟨0, sd σ _, rfl, sd_cg hA e, (if_neg h0).symm, rfl, rfl, fun _ => ⟨h0, rfl⟩⟩
    · exact ⟨1, σ, rfl, e, (if_pos h0).symm, rfl, rfl, fun z => absurd z (by decide)⟩
  obtain ⟨k, σ1, rfl, rfl, hk, ee, ee2, hk0⟩ := z2
  have hk9 : k < 1000 := by
    rw [hk]
    exact k01b
  have e21 : σ1.1 21 0 = σ.1 5 0 := (congrFun (congrFun ee 21) 0).trans q.1
  have M := Tri.qs (t_X8_paidShare (D := D) (s0 := s0) (l := l) (σ := σ1) hA (P := (σ1.1 20 0 15, σ1.1 20 0 16)) (u := σ1.1 21 0) ((congrFun e21 1).trans h1) hn)
  rw [e21] at M
  have hIV : IV A (m + 1) (tS σ1 (if σ.1 5 0 7 + S_sum (σ.1 5 0) nh 4 = 0 then 1 else 0)) := (iv9.e ee ee2).t
  refine V_istore (i := 6) dL_law_1865 (by omega) ?_
  refine V_aload_n (i := 2) dL_law_1867 rfl rfl ?_
  refine Cv1_0 (d := 12) cv_L_235 dL_law_1868 M (hp20 hA) rfl rfl (Nat.le_of_ble_eq_true rfl) ⟨by omega, by omega⟩ (by decide) ⟨by omega, by omega⟩ ?_
  refine V_dstore (i := 7) dL_law_1871 (by omega) ?_
  refine V_aload_n (i := 2) dL_law_1873 rfl rfl ?_
  refine Cv1_0 (d := 12) cv_L_132 dL_law_1874 (t_X8_thrown hA) (hp20 hA) rfl rfl (Nat.le_of_ble_eq_true rfl) ⟨by omega, by omega⟩ (by decide) ⟨by omega, by omega⟩ ?_
  refine V_iload (i := 6) dL_law_1877 rfl ?_
  refine V_icmp_eq (tgt := 1884) dL_law_1879 (by decide) (fun _ => ?_) (fun h => absurd ((w3_eq _ _ _ _ _).trans (k01.trans (congrArg nI hk.symm))) h)
  refine V_iload (i := 6) dL_law_1884 rfl ?_
  refine V_if_ne (tgt := 1921) dL_law_1886 (by decide) (fun _ => ?_) (fun h => ?_)
  · refine V_goto (tgt := 2081) dL_law_1921 (by decide) ?_
    refine V.wid (k := cells + 24) (n := slots + 816) (by omega) (by omega) ?_
    exact V.fin [2, 3, 4, 5, 6, 7] rfl rfl (kk _ hIV)
  · obtain ⟨hc0, hv0⟩ := hk0 ((nIz hk9).mp h)
    refine V_aload (i := 4) dL_law_1889 rfl ?_
    refine V_iconst (v := 0) dL_law_1891 (by decide) ?_
    refine V_dald (x := (shareV (σ.1 5 0) nh)) dL_law_1892 (hp31 hA) (vp_in_nI (n := 0) (N := 1) (by decide) (by decide)) (congrArg Value.double hv0) ?_
    refine V_dload (i := 7) dL_law_1893 rfl ?_
    refine V_dcmp dL_law_1895 ?_
    refine V_if_eq (tgt := 1921) dL_law_1896 (by decide) (fun _ => ?_) (fun h => absurd (share_w hc0) h)
    refine V_goto (tgt := 2081) dL_law_1921 (by decide) ?_
    refine V.wid (k := cells + 24) (n := slots + 816) (by omega) (by omega) ?_
    exact V.fin [2, 3, 4, 5, 6, 7] rfl rfl (kk _ hIV)

