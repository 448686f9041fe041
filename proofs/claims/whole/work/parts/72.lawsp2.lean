/-! the law: quiet, line, character, commands -/
theorem w3_cg {σ τ : Sg} {a b c a' : Nat} {x : Int32} (h : σ.1 a' = τ.1 a') : (w3 σ a b c x).1 a' = (w3 τ a b c x).1 a' := by
  unfold w3
  funext b' c'
  dsimp only
  rw [h]
/-- the class: commands were refused, the street comes back -/
theorem CK.back {σ : Sg} {nx cn tl : Nat} {w u sv tx : Nat → Int32} {h : HF} {sf ft a b x : Int32} {rr : RT} (q : CK σ nx w cn h sf sv rr tl tx ft) (hu : Bo u) : CK (cp (w3 (rfz (row (ntd σ nx) 5 0 u) a b) 2 0 2 x) 0 (2 + nx) (fun j => decide (j < 102))) nx w cn h sf sv (a, b, x) tl tx ft := by
  have qn := q.noted
  have ex : (ntd σ nx).1 5 (2 + nx) = w := by
    unfold ntd
    rw [cpw (q.2.2.2.1 _ (by have := q.2.1.2.1; omega)) (q.2.2.2.1 0 (by decide)), q.1]
  have er : (row (ntd σ nx) 5 0 u).1 5 (2 + nx) = w := (rowo (by omega)).trans ex
  have k : CK (cp (row (ntd σ nx) 5 0 u) 0 (2 + nx) (fun j => decide (j < 102))) nx w cn h sf sv rr tl tx ft := by
    have e0 : (cp (row (ntd σ nx) 5 0 u) 0 (2 + nx) (fun j => decide (j < 102))).1 5 0 = w := by
      rw [cpw (by rw [row_at]; exact hu) (by rw [er, ← q.1]; exact q.2.2.2.1 0 (by decide)), er]
    have eo : ∀ k, ¬ k = 0 → (cp (row (ntd σ nx) 5 0 u) 0 (2 + nx) (fun j => decide (j < 102))).1 5 k = (ntd σ nx).1 5 k := fun k n => (cpo n).trans (rowo n)
    have ea : ∀ k, ¬ k = 5 → (cp (row (ntd σ nx) 5 0 u) 0 (2 + nx) (fun j => decide (j < 102))).1 k = (ntd σ nx).1 k := fun k n => (cpa n).trans (rowa n)
    obtain ⟨h1, h2, h6, h7, ⟨h8, h9⟩, hr, ht, hf⟩ := qn
    refine ⟨e0, ?_, fun i hi => ?_, fun k hk => ?_, ⟨?_, fun z => ?_⟩, ?_, ?_, ?_⟩
    · rw [ea 3 (by decide)]
      exact h2
    · rw [eo _ (by omega)]
      exact h6 i hi
    · by_cases k0 : k = 0
      · rw [k0, e0, ← h1]
        exact h7 0 (by decide)
      · rw [eo k k0]
        exact h7 k hk
    · rw [ea 0 (by decide)]
      exact h8
    · rw [eo 1 (by decide)]
      exact h9 z
    · rw [ea 2 (by decide)]
      exact hr
    · rw [ea 11 (by decide), ea 12 (by decide)]
      exact ht
    · rw [ea 0 (by decide)]
      exact hf
  refine CK.cg (CK.third (x := x) (CK.why (a := a) (b := b) k)) (fun a9 h9 => ?_)
  by_cases a5 : a9 = 5
  · rw [a5, w3a (by decide), rfz_b (by decide)]
    have e5 : (w3 (rfz (row (ntd σ nx) 5 0 u) a b) 2 0 2 x).1 5 = (row (ntd σ nx) 5 0 u).1 5 := (w3a (by decide)).trans (rfz_b (by decide))
    unfold cp
    dsimp only
    rw [e5]
  · rw [cpa a5]
    unfold rfz
    exact w3_cg (w3_cg (w3_cg (w3_cg (cpa a5).symm)))
theorem qstb {B : Nat} {A : AT} {σ : Sg} {K : KT} {E : String} (hA : AOK B A) (hE : ¬ E = "") (hK : K.2 = 0 ∨ K.2 = 1) (r : Option Value) (G' : GH) (z : (∃ (σ1 : Sg) (v : Int32), (K.1 = 0 ∧ some (Value.int v) = some (.int K.2) ∧ HP A σ1 = HP A σ) ∧ r = some (.int 0) ∧ G' = HP A (sl σ1 (if v = 0 then 0 else 1))) ∨ (∃ σ1 : Sg, (¬ K.1 = 0 ∧ E = (if K.1 = 1 then E else "") ∧ HP A σ1 = HP A σ) ∧ r = some (.int 1) ∧ G' = HP A σ1)) : ∃ (k : Nat) (σ1 : Sg), r = some (.int (nI k)) ∧ G' = HP A σ1 ∧ QQ σ K k σ1 := by
  rcases z with ⟨σ1, v, ⟨h0, hv, e⟩, rfl, rfl⟩ | ⟨σ1, ⟨h0, h1, e⟩, rfl, rfl⟩
  · injection hv with hv
    injection hv with hv
    subst hv
    have ek : (if K.2 = 0 then (0 : Int64) else 1) = K.2.toInt64 := by
      rcases hK with q | q <;> rw [q] <;> rfl
    rw [ek]
    exact ⟨0, sl σ K.2.toInt64, rfl, sl_cg hA e, h0.symm, Or.inl ⟨rfl, rfl⟩⟩
  · by_cases k1 : K.1 = 1
    · exact ⟨1, σ, rfl, e, k1.symm, Or.inr ⟨by decide, rfl⟩⟩
    · rw [if_neg k1] at h1
      exact absurd h1 hE
theorem SBok.len {A : AT} {σ : Sg} {L : List Nat} (h : SBok A σ L) : L.length ≤ 34 := by
  have h2 := h.2.1
  have h4 := h.2.2.2.1
  omega
set_option maxHeartbeats 2000000 in
theorem lc_isQuiet {D : va_G} {s0 : State} {mn : String} {nL : Nat} {ret : Option FieldType} {hh : List (Nat × Nat × Nat × Nat)} {l : Launch} {R : Room} {Z : ZT} {A : AT} {b0 L i : Nat} {xs : Nat → Int32} {cells slots m : Nat} {σ : Sg} (hl : l.stackTraces = false) (hA : AOK s0.heap.size A) (H : LH s0 R nL b0 L i xs cells slots) (hm9 : m ≤ 600) (iv : IV A m σ) (kk : ∀ σ2 : Sg, IV A (m + 1) σ2 → V D s0 RL mn cL_law nL ret hh l R Z 2081 (LO A b0 i) [] (HP A σ2) (cells + 24) (slots + 816)) : V D s0 RL mn cL_law nL ret hh l R Z 1365 (LO A b0 i) [] (HP A σ) cells slots := by
  have iv9 := iv
  obtain ⟨nx, w, cn, h, sf, sv, rr, tl, tx, ft, T, c, q, mi, sb⟩ := iv
  have ew := c.1
  subst ew
  have hW := mi.1.wok
  have bo := mi.1.bo
  obtain ⟨hb, nh, nc, pl, ⟨h1, hn⟩, ⟨h2, hc⟩, ⟨h3, hp⟩, hd⟩ := mi.1
  obtain ⟨hnx, hx9, hcn, hc8⟩ := c.2.1
  have hK : (K_quiet (σ.1 5 0) nh (xs (i + 1))).1 ≤ 1 := by
    unfold K_quiet
    split
    all_goals exact Nat.le_of_ble_eq_true rfl
  have hK2 : (K_quiet (σ.1 5 0) nh (xs (i + 1))).2 = 0 ∨ (K_quiet (σ.1 5 0) nh (xs (i + 1))).2 = 1 := by
    unfold K_quiet
    split
    · exact Or.inl rfl
    · unfold bi
      dsimp only
      split
      · exact Or.inr rfl
      · exact Or.inl rfl
  refine law_c1 (p := 1365) (e2 := 2) (RR := fun k b σ2 => RDY A (m + 1) σ2 k b ∧ (b = 0 ∨ b = 1)) hA H csh_L_195 cv_L_197 rfl (t_L_isQuiet hA (d := 10) (t_X7_isQuiet hA hl h1 hn (x := (xs (i + 1)))) (fun r G' z => ⟨σ, _, z.2.1, z.2.2⟩) (fun E G' z => ⟨ifE1 z.1 hK z.2.1, σ, z.2.2⟩) (by decide)) (qstb (K := K_quiet (σ.1 5 0) nh (xs (i + 1))) (E := "java/lang/IndexOutOfBoundsException") hA (by decide) hK2) (fun k σ1 qq => ?_) (by decide) (by decide) (by decide) (by decide) dL_law_1365 dL_law_1366 dL_law_1367 dL_law_1369 dL_law_1370 dL_law_1371 dL_law_1372 dL_law_1373 dL_law_1376 dL_law_1378 dL_law_1379 dL_law_1380 dL_law_1382 dL_law_1383 dL_law_1384 dL_law_1385 dL_law_1388 (fun k b σ2 hr => ?_)
  · have e21 : σ1.1 21 0 = σ.1 5 0 := (congrFun (congrFun qq.a 21) 0).trans q.1
    have M := Tri.qs (t_X8_isQuiet (D := D) (s0 := s0) (l := l) (σ := σ1) hA (P := (σ1.1 20 0 15, σ1.1 20 0 16)) (u := σ1.1 21 0) ((congrFun e21 1).trans h1) hn (fun h9 hh9 => by rw [e21]; exact hW.dog hh9) (fun h9 hh9 => by rw [e21]; exact hW.bon hh9) (x := (xs (i + 1))))
    rw [e21] at M
    exact M.weaken (fun r G' z => ⟨_, _, z.1, z.2, qst_r iv9 qq (by omega), hK2⟩) (fun _ _ z => z)
  · obtain ⟨hr, hb01⟩ := hr
    obtain ⟨hT, hL, hi, hnL, hR, hc9, hs9⟩ := H
    refine V_aload_n (i := 2) dL_law_1390 rfl rfl ?_
    refine Cv1_0 (d := 12) cv_L_132 dL_law_1391 (t_X8_thrown hA) (hp20 hA) rfl rfl (Nat.le_of_ble_eq_true rfl) ⟨by omega, by omega⟩ (by decide) ⟨by omega, by omega⟩ ?_
    refine V_iload (i := 6) dL_law_1394 rfl ?_
    refine V_icmp_eq (tgt := 1401) dL_law_1396 (by decide) (fun _ => ?_) (fun h => absurd hr.1 h)
    refine V_iload (i := 6) dL_law_1401 rfl ?_
    refine V_if_ne (tgt := 1425) dL_law_1403 (by decide) (fun _ => ?_) (fun h => ?_)
    · refine V_goto (tgt := 2081) dL_law_1425 (by decide) ?_
      exact V.fin [2, 3, 4, 5, 6, 7] rfl rfl (kk σ2 hr.2.2.2)
    · refine V_aload_n (i := 3) dL_law_1406 rfl rfl ?_
      refine V_iconst (v := 0) dL_law_1407 (by decide) ?_
      refine V_lald (x := b.toInt64) dL_law_1408 (hp30 hA) (vp_in_nI (n := 0) (N := 1) (by decide) (by decide)) (congrArg Value.long (hr.2.2.1 ((nIz hr.2.1).mp h))) ?_
      refine V_iload (i := 7) dL_law_1409 rfl ?_
      refine V_if_eq (tgt := 1418) dL_law_1411 (by decide) (fun b0 => ?_) (fun b0 => ?_)
      · refine V_lconst (v := 0) dL_law_1418 (by decide) ?_
        refine V_lcmp dL_law_1419 ?_
        refine V_if_eq (tgt := 1425) dL_law_1420 (by decide) (fun _ => ?_) (fun h => absurd ((lg_cmp_eq _ _).mpr (by rw [b0]; rfl)) h)
        refine V_goto (tgt := 2081) dL_law_1425 (by decide) ?_
        exact V.fin [2, 3, 4, 5, 6, 7] rfl rfl (kk σ2 hr.2.2.2)
      · refine V_lconst (v := 1) dL_law_1414 (by decide) ?_
        refine V_goto (tgt := 1419) dL_law_1415 (by decide) ?_
        refine V_lcmp dL_law_1419 ?_
        refine V_if_eq (tgt := 1425) dL_law_1420 (by decide) (fun _ => ?_) (fun h => absurd ((lg_cmp_eq _ _).mpr (by rw [hb01.resolve_left b0]; rfl)) h)
        refine V_goto (tgt := 2081) dL_law_1425 (by decide) ?_
        exact V.fin [2, 3, 4, 5, 6, 7] rfl rfl (kk σ2 hr.2.2.2)

set_option maxHeartbeats 2000000 in
theorem lc_line {D : va_G} {s0 : State} {mn : String} {nL : Nat} {ret : Option FieldType} {hh : List (Nat × Nat × Nat × Nat)} {l : Launch} {R : Room} {Z : ZT} {A : AT} {b0 L i : Nat} {xs : Nat → Int32} {cells slots m : Nat} {σ : Sg} (hl : l.stackTraces = false) (hA : AOK s0.heap.size A) (H : LH s0 R nL b0 L i xs cells slots) (hm9 : m ≤ 600) (iv : IV A m σ) (kk : ∀ σ2 : Sg, IV A (m + 1) σ2 → V D s0 RL mn cL_law nL ret hh l R Z 2081 (LO A b0 i) [] (HP A σ2) (cells + 24) (slots + 816)) : V D s0 RL mn cL_law nL ret hh l R Z 1681 (LO A b0 i) [] (HP A σ) cells slots := by
  have iv9 := iv
  obtain ⟨nx, w, cn, h, sf, sv, rr, tl, tx, ft, T, c, q, mi, sb⟩ := iv
  have ew := c.1
  subst ew
  have hW := mi.1.wok
  have bo := mi.1.bo
  obtain ⟨hb, nh, nc, pl, ⟨h1, hn⟩, ⟨h2, hc⟩, ⟨h3, hp⟩, hd⟩ := mi.1
  obtain ⟨hnx, hx9, hcn, hc8⟩ := c.2.1
  refine law_c1 (p := 1681) (e2 := 2) (RR := fun k b σ2 => RDY A (m + 1) σ2 k b) (Q := fun k σ1 => (k = 0 ∧ ∃ (h9 : Nat) (σ' : Sg), h9 < nh ∧ (xs (i + 1)) = nI h9 ∧ SBr σ σ' ∧ SBok A σ' (lnT (σ.1 5 0) h9) ∧ σ1 = sl σ' (nI (lnT (σ.1 5 0) h9).length).toInt64) ∨ (k = 1 ∧ ob (xs (i + 1)) 0 (nI nh - 1) = true ∧ σ1 = σ)) hA H csh_L_223 cv_L_225 rfl (t_L_line hA (d := 10) (t_X7_line hA hl sb hW h1 hn (x := (xs (i + 1)))) (fun r G' ⟨h9, σ', _, _, z1, z2, _, _⟩ => ⟨σ', _, z1, z2⟩) (fun E G' z => ⟨z.2.1, σ, z.2.2⟩) (by decide)) (fun r G' z => ?_) (fun k σ1 qq => ?_) (by decide) (by decide) (by decide) (by decide) dL_law_1681 dL_law_1682 dL_law_1683 dL_law_1685 dL_law_1686 dL_law_1687 dL_law_1688 dL_law_1689 dL_law_1692 dL_law_1694 dL_law_1695 dL_law_1696 dL_law_1698 dL_law_1699 dL_law_1700 dL_law_1701 dL_law_1704 (fun k b σ2 hr => law_tail hA H hr dL_law_1706 dL_law_1707 dL_law_1710 dL_law_1712 dL_law_1717 dL_law_1719 dL_law_1722 dL_law_1723 dL_law_1724 dL_law_1725 dL_law_1727 dL_law_1728 dL_law_1729 dL_law_1734 (by decide) (kk σ2 hr.2.2.2))
  · rcases z with ⟨σ1, v, ⟨h9, σ', hh, hx9, hv, e, hs, hk⟩, rfl, rfl⟩ | ⟨σ1, ⟨h0, -, e⟩, rfl, rfl⟩
    · injection hv with hv
      injection hv with hv
      subst hv
      exact ⟨0, sl σ' _, rfl, sl_cg hA e, Or.inl ⟨rfl, h9, σ', hh, hx9, hs, hk, rfl⟩⟩
    · exact ⟨1, σ, rfl, e, Or.inr ⟨rfl, h0, rfl⟩⟩
  have e1 : ∀ a9, ¬ a9 = 16 → σ1.1 a9 = σ.1 a9 := fun a9 h9 => by
    rcases qq with ⟨-, h8, σ', -, -, hs, -, rfl⟩ | ⟨-, -, rfl⟩
    · exact hs.1 a9 h9
    · rfl
  have e21 : σ1.1 21 0 = σ.1 5 0 := (congrFun (e1 21 (by decide)) 0).trans q.1
  have q1 := q.cg (fun a9 h9 => e1 a9 (by omega))
  refine (t_X8_line hA (m := m) (nh := nh) (by rw [e21]; exact hW) ((congrFun e21 1).trans h1) hn).weaken (fun r G' z => ?_) (fun _ _ z => z)
  rcases z with ⟨o1, rfl, rfl⟩ | ⟨h8, p8, ρ, hh8, hx8, hp8, rfl, rfl⟩
  · rcases qq with ⟨-, h9, σ', hh, hx9, -, -, -⟩ | ⟨rfl, o2, rfl⟩
    · rw [hx9, ob_in hh (by omega)] at o1
      cases o1
    · exact ⟨_, _, rfl, rfl, w3_eq _ _ _ _ _, by decide, fun z => absurd z (by decide), iv9.t⟩
  · rcases qq with ⟨rfl, h9, σ', hh, hx9, hs, hk, rfl⟩ | ⟨-, o2, -⟩
    · have e8 : h9 = h8 := nI_eq9 (by omega) (by omega) (hx9.symm.trans hx8)
      subst e8
      rw [e21, ← lnT_R hW hd (by omega)] at hp8
      have eb : ∀ a9, a9 < 20 → (w3 ρ 20 0 14 (nI p8)).1 a9 = σ'.1 a9 := fun a9 h9 => by
        rw [w3a (by omega), hp8.2.1 a9 (by omega)]
        exact w3a (by omega)
      have e2 : (w3 ρ 20 0 14 (nI p8)).2 = (sl σ' (nI (lnT (σ.1 5 0) h9).length).toInt64).2 := hp8.2.2.1
      refine ⟨_, _, rfl, rfl, ?_, by decide, fun _ => ?_, nx, σ.1 5 0, cn, h, sf, sv, rr, tl, tx, ft, lnT (σ.1 5 0) h9, c.cg (fun a9 h9 => (eb a9 (by omega)).trans (hs.1 a9 (by omega))), q1.line hp8, ⟨(mi.mono (Nat.le_succ m)).1, (mi.mono (Nat.le_succ m)).2.1, (mi.mono (Nat.le_succ m)).2.2.1, mi.2.2.2.1, hk.len, getD_lt (lnT_128 hb (by omega))⟩, hk.cg (eb 16 (by decide)) (congrArg (fun z => z.2.2) e2)⟩
      · rw [w3_ne (by omega), hp8.2.1 20 (by decide)]
        exact w3_eq _ _ _ _ _
      · rw [e2, hp8.1]
        rfl
    · rw [hx8, ob_in hh8 (by omega)] at o2
      cases o2

set_option maxHeartbeats 2000000 in
theorem lc_character {D : va_G} {s0 : State} {mn : String} {nL : Nat} {ret : Option FieldType} {hh : List (Nat × Nat × Nat × Nat)} {l : Launch} {R : Room} {Z : ZT} {A : AT} {b0 L i : Nat} {xs : Nat → Int32} {cells slots m : Nat} {σ : Sg} (hl : l.stackTraces = false) (hA : AOK s0.heap.size A) (H : LH s0 R nL b0 L i xs cells slots) (hm9 : m ≤ 600) (iv : IV A m σ) (kk : ∀ σ2 : Sg, IV A (m + 1) σ2 → V D s0 RL mn cL_law nL ret hh l R Z 2081 (LO A b0 i) [] (HP A σ2) (cells + 24) (slots + 816)) : V D s0 RL mn cL_law nL ret hh l R Z 1737 (LO A b0 i) [] (HP A σ) cells slots := by
  have iv9 := iv
  obtain ⟨nx, w, cn, h, sf, sv, rr, tl, tx, ft, T, c, q, mi, sb⟩ := iv
  have ew := c.1
  subst ew
  have hW := mi.1.wok
  have bo := mi.1.bo
  obtain ⟨hb, nh, nc, pl, ⟨h1, hn⟩, ⟨h2, hc⟩, ⟨h3, hp⟩, hd⟩ := mi.1
  obtain ⟨hnx, hx9, hcn, hc8⟩ := c.2.1
  obtain ⟨hT34, hT128⟩ := mi.2.2.2.2
  refine law_c1 (p := 1737) (e2 := 2) (RR := fun k b σ2 => RDY A (m + 1) σ2 k b) (Q := fun k σ1 => (k = 0 ∧ ∃ j : Nat, j < T.length ∧ (xs (i + 1)) = nI j ∧ σ1 = sl σ (nI (T.getD j 0)).toInt64) ∨ (k = 1 ∧ ob (xs (i + 1)) 0 (nI T.length - 1) = true ∧ σ1 = σ)) hA H csh_L_226 cv_L_228 rfl (t_L_character hA (d := 10) (t_X7_character hA hl sb (x := (xs (i + 1)))) (fun r G' ⟨j, _, _, z1, z2⟩ => ⟨σ, _, z1, z2⟩) (fun E G' z => ⟨z.2.1, σ, z.2.2⟩) (by decide)) (fun r G' z => ?_) (fun k σ1 qq => ?_) (by decide) (by decide) (by decide) (by decide) dL_law_1737 dL_law_1738 dL_law_1739 dL_law_1741 dL_law_1742 dL_law_1743 dL_law_1744 dL_law_1745 dL_law_1748 dL_law_1750 dL_law_1751 dL_law_1752 dL_law_1754 dL_law_1755 dL_law_1756 dL_law_1757 dL_law_1760 (fun k b σ2 hr => law_tail hA H hr dL_law_1762 dL_law_1763 dL_law_1766 dL_law_1768 dL_law_1773 dL_law_1775 dL_law_1778 dL_law_1779 dL_law_1780 dL_law_1781 dL_law_1783 dL_law_1784 dL_law_1785 dL_law_1790 (by decide) (kk σ2 hr.2.2.2))
  · rcases z with ⟨σ1, v, ⟨j, hj, hx9, hv, e⟩, rfl, rfl⟩ | ⟨σ1, ⟨h0, -, e⟩, rfl, rfl⟩
    · injection hv with hv
      injection hv with hv
      subst hv
      exact ⟨0, sl σ _, rfl, sl_cg hA e, Or.inl ⟨rfl, j, hj, hx9, rfl⟩⟩
    · exact ⟨1, σ, rfl, e, Or.inr ⟨rfl, h0, rfl⟩⟩
  have e1 : σ1.1 = σ.1 := by
    rcases qq with ⟨-, j, -, -, rfl⟩ | ⟨-, -, rfl⟩ <;> rfl
  have q1 := q.cg (fun a9 _ => congrFun e1 a9)
  refine (t_X8_character hA (T := T) hT34 q1.2.2.2.2.2.2.2.1 (fun j hj => ⟨hT128 j hj, q1.2.2.2.2.2.2.2.2 j hj⟩)).weaken (fun r G' z => ?_) (fun _ _ z => z)
  rcases z with ⟨o1, rfl, rfl⟩ | ⟨j8, hj8, hx8, rfl, rfl⟩
  · rcases qq with ⟨-, j9, hj, hx9, -⟩ | ⟨rfl, o2, rfl⟩
    · rw [hx9, ob_in hj (by omega)] at o1
      cases o1
    · exact ⟨_, _, rfl, rfl, w3_eq _ _ _ _ _, by decide, fun z => absurd z (by decide), iv9.t⟩
  · rcases qq with ⟨rfl, j9, hj, hx9, rfl⟩ | ⟨-, o2, -⟩
    · have e8 : j9 = j8 := nI_eq9 (by omega) (by omega) (hx9.symm.trans hx8)
      subst e8
      exact ⟨_, _, rfl, rfl, (w3_eq _ _ _ _ _).trans nI_0.symm, by decide, fun _ => rfl, (iv9.e (τ := sl σ (nI (T.getD j9 0)).toInt64) rfl rfl).t⟩
    · rw [hx8, ob_in hj8 (by omega)] at o2
      cases o2

set_option maxHeartbeats 2000000 in
theorem lc_commands {D : va_G} {s0 : State} {mn : String} {nL : Nat} {ret : Option FieldType} {hh : List (Nat × Nat × Nat × Nat)} {l : Launch} {R : Room} {Z : ZT} {A : AT} {b0 L i : Nat} {xs : Nat → Int32} {cells slots m : Nat} {σ : Sg} (hl : l.stackTraces = false) (hA : AOK s0.heap.size A) (H : LH s0 R nL b0 L i xs cells slots) (hm9 : m ≤ 600) (iv : IV A m σ) (kk : ∀ σ2 : Sg, IV A (m + 1) σ2 → V D s0 RL mn cL_law nL ret hh l R Z 2081 (LO A b0 i) [] (HP A σ2) (cells + 24) (slots + 816)) : V D s0 RL mn cL_law nL ret hh l R Z 1568 (LO A b0 i) [] (HP A σ) cells slots := by
  have iv9 := iv
  obtain ⟨nx, w, cn, h, sf, sv, rr, tl, tx, ft, T, c, q, mi, sb⟩ := iv
  have ew := c.1
  subst ew
  have hW := mi.1.wok
  have bo := mi.1.bo
  obtain ⟨hb, nh, nc, pl, ⟨h1, hn⟩, ⟨h2, hc⟩, ⟨h3, hp⟩, hd⟩ := mi.1
  obtain ⟨hnx, hx9, hcn, hc8⟩ := c.2.1
  obtain ⟨ht6, hch⟩ := mi.2.2.2.1
  obtain ⟨t1, t2⟩ := c.2.2.2.2.2.2.1
  have hz : ∀ j, 102 ≤ j → σ.1 5 0 j = 0 := fun j hj => hb.z hj
  have hch2 : ∀ j, j < tl → ∃ ch, ch < 65536 ∧ σ.1 12 0 j = nI ch := fun j hj => by
    rw [t2 j hj]
    exact hch j hj
  have hgO : (pGo (σ.1 12 0) tl 30 0).2 = none → Ow m (gS nh nc (pGo (σ.1 12 0) tl 30 0).1 0 (σ.1 5 0)).2.2 := fun z => gS_ok (by omega) _ _ _ (pGo_k 30 0 z) mi.1 h1 hn h2 hc
  refine law_c0 (p := 1568) (e2 := 8) (RR := fun k b σ2 => RDY A (m + 1) σ2 k b) (Q := fun k σ1 => ∃ σ' : Sg, TxS σ σ' ∧ ((k = 0 ∧ (pGo (σ.1 12 0) tl 30 0).2 = none ∧ (gS nh nc (pGo (σ.1 12 0) tl 30 0).1 0 (σ.1 5 0)).1.1 = 0 ∧ σ1 = sl (kpN (row (ntd (cmT σ' (-1)) nx) 5 0 (gS nh nc (pGo (σ.1 12 0) tl 30 0).1 0 (σ.1 5 0)).2.2) nx cn) (nI (pGo (σ.1 12 0) tl 30 0).1.length).toInt64) ∨ (k = 1 ∧ ∃ q9, (pGo (σ.1 12 0) tl 30 0).2 = some q9 ∧ σ1 = cmT σ' (nI q9)) ∨ (k = 2 ∧ (pGo (σ.1 12 0) tl 30 0).2 = none ∧ ¬ (gS nh nc (pGo (σ.1 12 0) tl 30 0).1 0 (σ.1 5 0)).1.1 = 0 ∧ σ1 = (cp (w3 (rfz (row (ntd (cmT σ' (-1)) nx) 5 0 (gS nh nc (pGo (σ.1 12 0) tl 30 0).1 0 (σ.1 5 0)).2.2) (gS nh nc (pGo (σ.1 12 0) tl 30 0).1 0 (σ.1 5 0)).1.1 (gS nh nc (pGo (σ.1 12 0) tl 30 0).1 0 (σ.1 5 0)).1.2) 2 0 2 (nI (gS nh nc (pGo (σ.1 12 0) tl 30 0).1 0 (σ.1 5 0)).2.1)) 0 (2 + nx) (fun j => decide (j < 102)))))) hA H csh_L_213 cv_L_215 rfl (t_L_commands hA (d := 10) (t_X7_commands hA hl hnx hx9 hcn hc8 h1 hn h2 hc (by omega : m ≤ 1000) hW t1 ht6 hch2) (fun r G' ⟨σ', _, _, _, z1, z2⟩ => ⟨_, _, z1, z2⟩) (fun E G' z => ?_) (by decide)) (fun r G' z => ?_) (fun k σ1 qq => ?_) (by decide) (by decide) (by decide) (by decide) dL_law_1568 dL_law_1569 dL_law_1570 dL_law_1573 dL_law_1575 dL_law_1576 dL_law_1579 (fun k b σ2 hr => law_tail hA H hr dL_law_1581 dL_law_1582 dL_law_1585 dL_law_1587 dL_law_1592 dL_law_1594 dL_law_1597 dL_law_1598 dL_law_1599 dL_law_1600 dL_law_1602 dL_law_1603 dL_law_1604 dL_law_1609 (by decide) (kk σ2 hr.2.2.2))
  · obtain ⟨σ', -, ⟨q9, -, z1, z2⟩ | ⟨-, -, z1, z2⟩⟩ := z
    · exact ⟨Or.inl z1, _, z2⟩
    · exact ⟨Or.inr z1, _, z2⟩
  · rcases z with ⟨σ1, v, ⟨σ', hT, hn0, hg, hv, e⟩, rfl, rfl⟩ | ⟨σ1, ⟨σ', hT, ⟨q9, hq9, -, e⟩ | ⟨-, -, x9, -⟩⟩, rfl, rfl⟩ | ⟨σ1, ⟨σ', hT, ⟨-, -, x9, -⟩ | ⟨hn0, hg, -, e⟩⟩, rfl, rfl⟩
    · injection hv with hv
      injection hv with hv
      subst hv
      have ea : allS (ntd (cmT σ' (-1)) nx) (gS nh nc (pGo (σ.1 12 0) tl 30 0).1 0 (σ.1 5 0)) = row (ntd (cmT σ' (-1)) nx) 5 0 (gS nh nc (pGo (σ.1 12 0) tl 30 0).1 0 (σ.1 5 0)).2.2 := if_pos hg
      rw [ea] at e
      exact ⟨0, _, rfl, sl_cg hA e, σ', hT, Or.inl ⟨rfl, hn0, hg, rfl⟩⟩
    · exact ⟨1, _, rfl, e, σ', hT, Or.inr (Or.inl ⟨rfl, q9, hq9, rfl⟩)⟩
    · exact absurd x9 (by decide)
    · exact absurd x9 (by decide)
    · have ea : allS (ntd (cmT σ' (-1)) nx) (gS nh nc (pGo (σ.1 12 0) tl 30 0).1 0 (σ.1 5 0)) = w3 (rfz (row (ntd (cmT σ' (-1)) nx) 5 0 (gS nh nc (pGo (σ.1 12 0) tl 30 0).1 0 (σ.1 5 0)).2.2) (gS nh nc (pGo (σ.1 12 0) tl 30 0).1 0 (σ.1 5 0)).1.1 (gS nh nc (pGo (σ.1 12 0) tl 30 0).1 0 (σ.1 5 0)).1.2) 2 0 2 (nI (gS nh nc (pGo (σ.1 12 0) tl 30 0).1 0 (σ.1 5 0)).2.1) := if_neg hg
      rw [ea] at e
      exact ⟨2, _, rfl, e, σ', hT, Or.inr (Or.inr ⟨rfl, hn0, hg, rfl⟩)⟩
  obtain ⟨σ', hT, qq⟩ := qq
  have ecm : ∀ (x : Int32) (a9 : Nat), 16 ≤ a9 → (cmT σ' x).1 a9 = σ.1 a9 := fun x a9 h9 => (cmT_a (by omega) (by omega)).trans (hT.1 a9 (by omega) (by omega) (by omega) (by omega))
  have e1 : ∀ a9, 16 ≤ a9 → σ1.1 a9 = σ.1 a9 := fun a9 h9 => by
    rcases qq with ⟨-, -, -, rfl⟩ | ⟨-, q9, -, rfl⟩ | ⟨-, -, -, rfl⟩
    · show (kpN (row (ntd (cmT σ' (-1)) nx) 5 0 (gS nh nc (pGo (σ.1 12 0) tl 30 0).1 0 (σ.1 5 0)).2.2) nx cn).1 a9 = _
      exact (kpN_b (by omega)).trans ((rowa (by omega)).trans ((cpa (by omega)).trans (ecm _ a9 h9)))
    · exact ecm _ a9 h9
    · exact (cpa (by omega)).trans ((w3a (by omega)).trans ((rfz_b (by omega)).trans ((rowa (by omega)).trans ((cpa (by omega)).trans (ecm _ a9 h9)))))
  have e2 : σ1.2.2.2 = σ.2.2.2 := by
    rcases qq with ⟨-, -, -, rfl⟩ | ⟨-, q9, -, rfl⟩ | ⟨-, -, -, rfl⟩
    · exact congrArg (fun z => z.2.2) hT.2.1
    · exact congrArg (fun z => z.2.2) hT.2.1
    · exact congrArg (fun z => z.2.2) hT.2.1
  have q1 := q.cg (fun a9 h9 => e1 a9 (by omega))
  have sb1 := sb.cg (e1 16 (by decide)) e2
  have e21 : σ1.1 21 0 = σ.1 5 0 := q1.1
  have epg : pGo (σ1.1 25 0) tl 30 0 = (pGo (σ.1 12 0) tl 30 0) := pGo_cg (fun j hj => (q1.2.2.2.2.2.1.2 j hj).trans (t2 j hj).symm) 30 0
  have M := t_X8_commands (D := D) (s0 := s0) (l := l) (σ := σ1) hA q1.2.2.1.1 hc8 ((congrFun e21 1).trans h1) hn ((congrFun e21 2).trans h2) hc (by omega : m ≤ 1000) (by rw [e21]; exact hW) q1.2.2.2.2.2.1.1 ht6
  rw [epg] at M
  refine M.weaken (fun r G' z => ?_) (fun _ _ z => z)
  obtain ⟨τ, hR, z⟩ := z
  rw [e21] at z
  have et2 : τ.2 = σ1.2 := hR.2.2
  have eτ : ∀ (x y : Int32) (a9 : Nat), a9 < 20 → (crB τ x y).1 a9 = σ1.1 a9 := fun x y a9 h9 => (crB_a (by omega)).trans ((hR.1 a9 (by omega) (by omega) (by omega)).trans (crA_a (by omega)))
  have m0 : MK (m + 1) (σ.1 5 0) cn h sf sv 0 tx T := ⟨mi.1.mono (Nat.le_succ m), (mi.mono (Nat.le_succ m)).2.1, (mi.mono (Nat.le_succ m)).2.2.1, ⟨by decide, fun j hj => by omega⟩, mi.2.2.2.2⟩
  rcases z with ⟨q8, hq8, rfl, rfl⟩ | ⟨hn8, hg8, rfl, rfl⟩ | ⟨hn8, hg8, rfl, u, hu, rfl⟩
  · rcases qq with ⟨-, z, -⟩ | ⟨rfl, q9, hq9, rfl⟩ | ⟨-, z, -⟩
    · rw [hq8] at z
      cases z
    · rw [hq8] at hq9
      injection hq9 with hq9
      subst hq9
      exact ⟨_, _, rfl, rfl, w3_eq _ _ _ _ _, by decide, fun z => absurd z (by decide), nx, σ.1 5 0, cn, h, sf, sv, rr, 0, tx, nI q8, T, (c.text hT).cg (fun a9 h9 => eτ _ _ a9 (by omega)), q1.text hR, m0, sb1.cg (eτ _ _ 16 (by decide)) (congrArg (fun z => z.2.2) et2)⟩
    · rw [hq8] at z
      cases z
  · rcases qq with ⟨rfl, -, -, rfl⟩ | ⟨-, q9, z, -⟩ | ⟨-, -, z, -⟩
    · refine ⟨_, _, rfl, rfl, remS_6.trans nI_0.symm, by decide, fun _ => ?_, (nx + 1) % 9, (gS nh nc (pGo (σ.1 12 0) tl 30 0).1 0 (σ.1 5 0)).2.2, upN cn, hPush cn h (σ.1 5 0), sf, sv, rr, 0, tx, -1, T, ((c.text (x := -1) hT).push (hgO hn8).bo).cg (fun a9 h9 => (remS_b (by omega)).trans ((w3a (by omega)).trans ((rs_b (by omega)).trans ((beg_b (by omega)).trans (eτ _ _ a9 (by omega)))))), (q1.text hR).push hz, MK.push (m := m) ⟨mi.1, mi.2.1, mi.2.2.1, ⟨by decide, fun j hj => by omega⟩, mi.2.2.2.2⟩ hc8 (Nat.le_succ m) ((hgO hn8).mono (Nat.le_succ m)), sb1.cg ((remS_b (by decide)).trans ((w3a (by decide)).trans ((rs_b (by decide)).trans ((beg_b (by decide)).trans (eτ _ _ 16 (by decide)))))) (congrArg (fun z => z.2.2) et2)⟩
      show τ.2.1 0 = _
      rw [et2]
      rfl
    · rw [hn8] at z
      cases z
    · exact absurd hg8 z
  · rcases qq with ⟨-, -, z, -⟩ | ⟨-, q9, z, -⟩ | ⟨rfl, -, -, rfl⟩
    · exact absurd z hg8
    · rw [hn8] at z
      cases z
    · exact ⟨_, _, rfl, rfl, refS_6, by decide, fun z => absurd z (by decide), nx, σ.1 5 0, cn, h, sf, sv, ((gS nh nc (pGo (σ.1 12 0) tl 30 0).1 0 (σ.1 5 0)).1.1, (gS nh nc (pGo (σ.1 12 0) tl 30 0).1 0 (σ.1 5 0)).1.2, nI (gS nh nc (pGo (σ.1 12 0) tl 30 0).1 0 (σ.1 5 0)).2.1), 0, tx, -1, T, ((c.text (x := -1) hT).back (hgO hn8).bo).cg (fun a9 h9 => (refS_b (by omega)).trans ((rs_b (by omega)).trans ((beg_b (by omega)).trans (eτ _ _ a9 (by omega))))), (q1.text hR).ref hz hu, m0, sb1.cg ((refS_b (by decide)).trans ((rs_b (by decide)).trans ((beg_b (by decide)).trans (eτ _ _ 16 (by decide))))) (congrArg (fun z => z.2.2) et2)⟩

