/-! the law: the other cases -/
set_option maxHeartbeats 2000000 in
theorem lc_append {D : va_G} {s0 : State} {mn : String} {nL : Nat} {ret : Option FieldType} {hh : List (Nat × Nat × Nat × Nat)} {l : Launch} {R : Room} {Z : ZT} {A : AT} {b0 L i : Nat} {xs : Nat → Int32} {cells slots m : Nat} {σ : Sg} (hl : l.stackTraces = false) (hA : AOK s0.heap.size A) (H : LH s0 R nL b0 L i xs cells slots) (hm9 : m ≤ 600) (iv : IV A m σ) (kk : ∀ σ2 : Sg, IV A (m + 1) σ2 → V D s0 RL mn cL_law nL ret hh l R Z 2081 (LO A b0 i) [] (HP A σ2) (cells + 24) (slots + 816)) : V D s0 RL mn cL_law nL ret hh l R Z 1510 (LO A b0 i) [] (HP A σ) cells slots := by
  have iv9 := iv
  obtain ⟨nx, w, cn, h, sf, sv, rr, tl, tx, ft, T, c, q, mi, sb⟩ := iv
  have ew := c.1
  subst ew
  have hW := mi.1.wok
  have bo := mi.1.bo
  obtain ⟨hb, nh, nc, pl, ⟨h1, hn⟩, ⟨h2, hc⟩, ⟨h3, hp⟩, hd⟩ := mi.1
  obtain ⟨hnx, hx9, hcn, hc8⟩ := c.2.1
  obtain ⟨ht6, hch⟩ := mi.2.2.2.1
  obtain ⟨t1, t2⟩ := c.2.2.2.2.2.2.1
  have hK : (K_append tl).1 ≤ 1 := by
    unfold K_append
    split
    all_goals exact Nat.le_of_ble_eq_true rfl
  refine law_ca (p := 1510) (e2 := 0) (RR := fun k b σ2 => RDY A (m + 1) σ2 k b) hA H csh_L_209 cv_L_212 rfl (t_L_append hA (d := 10) (t_X7_append hA hl t1 ht6 (chr_n _)) (fun r G' z => ⟨_, _, z.2.1, z.2.2⟩) (fun E G' z => ⟨ifE1 z.1 hK z.2.1, σ, z.2.2⟩) (by decide)) (wr1 hA) (fun k σ1 qq => ?_) (by decide) (by decide) (by decide) (by decide) dL_law_1510 dL_law_1511 dL_law_1512 dL_law_1514 dL_law_1515 dL_law_1516 dL_law_1517 dL_law_1518 dL_law_1519 dL_law_1522 dL_law_1524 dL_law_1525 dL_law_1526 dL_law_1528 dL_law_1529 dL_law_1530 dL_law_1531 dL_law_1532 dL_law_1535 (fun k b σ2 hr => law_tail hA H hr dL_law_1537 dL_law_1538 dL_law_1541 dL_law_1543 dL_law_1548 dL_law_1550 dL_law_1553 dL_law_1554 dL_law_1555 dL_law_1556 dL_law_1558 dL_law_1559 dL_law_1560 dL_law_1565 (by decide) (kk σ2 hr.2.2.2))
  have e1 : σ1.1 20 = σ.1 20 := by
    rcases qq with ⟨-, -, rfl⟩ | ⟨-, -, rfl⟩
    · show (w3 (w3 σ 12 0 tl ((xs (i + 1)).toUInt32 % 65536).toInt32) 11 0 0 (nI (tl + 1))).1 20 = _
      rw [w3a (by decide), w3a (by decide)]
    · rfl
  refine (t_X8_append (tl := tl) hA (by rw [e1]; exact q.2.2.2.2.2.1.1) ht6).weaken (fun r G' z => ⟨_, _, z.1, z.2, ?_⟩) (fun _ _ z => z)
  rcases qq with ⟨rfl, h0, rfl⟩ | ⟨rfl, h0, rfl⟩
  · have n60 : ¬ 60 ≤ tl := fun z => by
      unfold K_append at h0
      rw [if_pos z] at h0
      exact absurd h0 (by decide)
    have eK : (K_append tl).2 = nI (tl + 1) := by
      unfold K_append
      rw [if_neg n60]
    unfold apS
    rw [if_neg n60, eK]
    refine ⟨?_, by decide, fun _ => rfl, nx, σ.1 5 0, cn, h, sf, sv, rr, tl + 1, up tx tl ((xs (i + 1)).toUInt32 % 65536).toInt32, ft, T, ?_, ?_, ?_, ?_⟩
    · rw [w3_ne (by omega), w3_ne (by omega), w3_eq]
      exact nI_0.symm
    · refine CK.cg (c.app (x := ((xs (i + 1)).toUInt32 % 65536).toInt32)) (fun a9 h9 => ?_)
      rw [w3a (by omega), w3a (by omega), w3a (by omega)]
      rfl
    · refine RK.app (RK.cg q (fun a9 h9 => ?_))
      show (w3 (w3 σ 12 0 tl ((xs (i + 1)).toUInt32 % 65536).toInt32) 11 0 0 (nI (tl + 1))).1 a9 = _
      rw [w3a (by omega), w3a (by omega)]
    · refine ⟨(mi.mono (Nat.le_succ m)).1, (mi.mono (Nat.le_succ m)).2.1, (mi.mono (Nat.le_succ m)).2.2.1, ⟨by omega, fun j hj => ?_⟩, mi.2.2.2.2⟩
      unfold up
      split
      · exact chr_b _
      · exact hch j (by omega)
    · refine sb.cg ?_ rfl
      rw [w3a (by decide), w3a (by decide), w3a (by decide)]
      show (w3 (w3 σ 12 0 tl ((xs (i + 1)).toUInt32 % 65536).toInt32) 11 0 0 (nI (tl + 1))).1 16 = _
      rw [w3a (by decide), w3a (by decide)]
  · have y60 : 60 ≤ tl := Decidable.byContradiction (fun z => h0 (by
      unfold K_append
      rw [if_neg z]))
    unfold apS
    rw [if_pos y60]
    exact ⟨w3_eq _ _ _ _ _, by decide, fun z => absurd z (by decide), iv9.t⟩

set_option maxHeartbeats 2000000 in
theorem lc_undo {D : va_G} {s0 : State} {mn : String} {nL : Nat} {ret : Option FieldType} {hh : List (Nat × Nat × Nat × Nat)} {l : Launch} {R : Room} {Z : ZT} {A : AT} {b0 L i : Nat} {xs : Nat → Int32} {cells slots m : Nat} {σ : Sg} (hl : l.stackTraces = false) (hA : AOK s0.heap.size A) (H : LH s0 R nL b0 L i xs cells slots) (hm9 : m ≤ 600) (iv : IV A m σ) (kk : ∀ σ2 : Sg, IV A (m + 1) σ2 → V D s0 RL mn cL_law nL ret hh l R Z 2081 (LO A b0 i) [] (HP A σ2) (cells + 24) (slots + 816)) : V D s0 RL mn cL_law nL ret hh l R Z 1980 (LO A b0 i) [] (HP A σ) cells slots := by
  have iv9 := iv
  obtain ⟨nx, w, cn, h, sf, sv, rr, tl, tx, ft, T, c, q, mi, sb⟩ := iv
  have ew := c.1
  subst ew
  have hW := mi.1.wok
  have bo := mi.1.bo
  obtain ⟨hb, nh, nc, pl, ⟨h1, hn⟩, ⟨h2, hc⟩, ⟨h3, hp⟩, hd⟩ := mi.1
  obtain ⟨hnx, hx9, hcn, hc8⟩ := c.2.1
  have hK : (K_undo cn).1 ≤ 1 := by
    unfold K_undo
    split
    all_goals exact Nat.le_of_ble_eq_true rfl
  refine law_c0 (p := 1980) (e2 := 1) (RR := fun k b σ2 => RDY A (m + 1) σ2 k b) hA H csh_L_239 cv_L_241 rfl (t_L_undo hA (d := 10) (t_X7_undo hA hl hnx hx9 hcn hc8 (c.2.2.2.1 _ (by omega)).2) (fun r G' z => ⟨_, _, z.2.1, z.2.2⟩) (fun E G' z => ⟨ifE1 z.1 hK z.2.1, σ, z.2.2⟩) (by decide)) (wr1 hA) (fun k σ1 qq => ?_) (by decide) (by decide) (by decide) (by decide) dL_law_1980 dL_law_1981 dL_law_1982 dL_law_1985 dL_law_1987 dL_law_1988 dL_law_1991 (fun k b σ2 hr => law_tail hA H hr dL_law_1993 dL_law_1994 dL_law_1997 dL_law_1999 dL_law_2004 dL_law_2006 dL_law_2009 dL_law_2010 dL_law_2011 dL_law_2012 dL_law_2014 dL_law_2015 dL_law_2016 dL_law_2021 (by decide) (kk σ2 hr.2.2.2))
  have e1 : ∀ a9, 16 ≤ a9 → σ1.1 a9 = σ.1 a9 := fun a9 h9 => by
    rcases qq with ⟨-, -, rfl⟩ | ⟨-, -, rfl⟩
    · show (undS σ nx cn).1 a9 = _
      exact (cpa (by omega)).trans ((w3a (by omega)).trans (w3a (by omega)))
    · rfl
  have q1 := q.cg (fun a9 h9 => e1 a9 (by omega))
  refine (t_X8_undo hA q1.2.2.1.1 hc8).weaken (fun r G' z => ⟨_, _, z.1, z.2, ?_⟩) (fun _ _ z => z)
  have hz : ∀ j, 102 ≤ j → σ.1 5 0 j = 0 := fun j hj => hb.z hj
  rcases qq with ⟨rfl, h0, rfl⟩ | ⟨rfl, h0, rfl⟩
  · have n0 : ¬ cn = 0 := fun z => by
      unfold K_undo at h0
      rw [if_pos z] at h0
      exact absurd h0 (by decide)
    have hO := mi.2.1 (cn - 1) (by omega)
    refine ⟨?_, by decide, fun _ => ?_, (nx + 8) % 9, h (cn - 1), cn - 1, h, sf, sv, rr, tl, tx, ft, T, (c.undo (by omega)).cg (fun a9 h9 => ?_), q1.undo (by omega) hz (fun j hj => hO.1.z hj), ⟨hO.mono (Nat.le_succ m), fun j hj => (mi.2.1 j (by omega)).mono (Nat.le_succ m), (mi.mono (Nat.le_succ m)).2.2⟩, ?_⟩
    · unfold undR
      rw [if_neg n0, rowa (by decide), w3_ne (by omega), w3_eq]
      exact nI_0.symm
    · unfold undR
      rw [if_neg n0]
      rfl
    · unfold undR
      rw [if_neg n0, rowa (by omega), w3a (by omega), w3a (by omega)]
      rfl
    · refine sb.cg ?_ ?_
      · unfold undR
        rw [if_neg n0, rowa (by decide), w3a (by decide), w3a (by decide)]
        exact e1 16 (by decide)
      · unfold undR
        rw [if_neg n0]
        rfl
  · have y0 : cn = 0 := Decidable.byContradiction (fun z => h0 (by
      unfold K_undo
      rw [if_neg z]))
    unfold undR
    rw [if_pos y0]
    exact ⟨w3_eq _ _ _ _ _, by decide, fun z => absurd z (by decide), iv9.t⟩

set_option maxHeartbeats 2000000 in
theorem lc_save {D : va_G} {s0 : State} {mn : String} {nL : Nat} {ret : Option FieldType} {hh : List (Nat × Nat × Nat × Nat)} {l : Launch} {R : Room} {Z : ZT} {A : AT} {b0 L i : Nat} {xs : Nat → Int32} {cells slots m : Nat} {σ : Sg} (hl : l.stackTraces = false) (hA : AOK s0.heap.size A) (H : LH s0 R nL b0 L i xs cells slots) (hm9 : m ≤ 600) (iv : IV A m σ) (kk : ∀ σ2 : Sg, IV A (m + 1) σ2 → V D s0 RL mn cL_law nL ret hh l R Z 2081 (LO A b0 i) [] (HP A σ2) (cells + 24) (slots + 816)) : V D s0 RL mn cL_law nL ret hh l R Z 2024 (LO A b0 i) [] (HP A σ) cells slots := by
  have iv9 := iv
  obtain ⟨nx, w, cn, h, sf, sv, rr, tl, tx, ft, T, c, q, mi, sb⟩ := iv
  have ew := c.1
  subst ew
  have hW := mi.1.wok
  have bo := mi.1.bo
  obtain ⟨hb, nh, nc, pl, ⟨h1, hn⟩, ⟨h2, hc⟩, ⟨h3, hp⟩, hd⟩ := mi.1
  obtain ⟨hnx, hx9, hcn, hc8⟩ := c.2.1
  have hz : ∀ j, 102 ≤ j → σ.1 5 0 j = 0 := fun j hj => hb.z hj
  have e1 : ∀ a9, 16 ≤ a9 → (w3 (cp σ 1 0 (fun j => decide (j < 102))) 0 0 0 1).1 a9 = σ.1 a9 := fun a9 h9 => (w3a (by omega)).trans (cpa (by omega))
  have q1 := q.cg (τ := w3 (cp σ 1 0 (fun j => decide (j < 102))) 0 0 0 1) (fun a9 h9 => e1 a9 (by omega))
  have M2 := t_X8_save (D := D) (s0 := s0) (l := l) (σ := w3 (cp σ 1 0 (fun j => decide (j < 102))) 0 0 0 1) hA
  rw [q1.1] at M2
  have eb : ∀ a9, a9 < 20 → (savR (w3 (cp σ 1 0 (fun j => decide (j < 102))) 0 0 0 1)).1 a9 = (w3 (cp σ 1 0 (fun j => decide (j < 102))) 0 0 0 1).1 a9 := fun a9 h9 => by
    unfold savR
    rw [w3a (by omega), rowa (by omega), w3a (by omega)]
  refine law_q (p := 2024) hA H cv_L_242 cv_L_245 rfl rfl (t_X7_save hA bo.2) M2 (by decide) (by decide) dL_law_2024 dL_law_2025 dL_law_2028 dL_law_2029 dL_law_2032 (by decide) (kk _ ?_)
  exact ⟨nx, σ.1 5 0, cn, h, 1, σ.1 5 0, rr, tl, tx, ft, T, c.save.cg (fun a9 h9 => eb a9 (by omega)), q1.save hz, ⟨mi.1.mono (Nat.le_succ m), (mi.mono (Nat.le_succ m)).2.1, Or.inr ⟨rfl, mi.1.mono (Nat.le_succ m)⟩, mi.2.2.2⟩, sb.cg ((eb 16 (by decide)).trans (e1 16 (by decide))) rfl⟩

set_option maxHeartbeats 2000000 in
theorem lc_restore {D : va_G} {s0 : State} {mn : String} {nL : Nat} {ret : Option FieldType} {hh : List (Nat × Nat × Nat × Nat)} {l : Launch} {R : Room} {Z : ZT} {A : AT} {b0 L i : Nat} {xs : Nat → Int32} {cells slots m : Nat} {σ : Sg} (hl : l.stackTraces = false) (hA : AOK s0.heap.size A) (H : LH s0 R nL b0 L i xs cells slots) (hm9 : m ≤ 600) (iv : IV A m σ) (kk : ∀ σ2 : Sg, IV A (m + 1) σ2 → V D s0 RL mn cL_law nL ret hh l R Z 2081 (LO A b0 i) [] (HP A σ2) (cells + 24) (slots + 816)) : V D s0 RL mn cL_law nL ret hh l R Z 2037 (LO A b0 i) [] (HP A σ) cells slots := by
  have iv9 := iv
  obtain ⟨nx, w, cn, h, sf, sv, rr, tl, tx, ft, T, c, q, mi, sb⟩ := iv
  have ew := c.1
  subst ew
  have hW := mi.1.wok
  have bo := mi.1.bo
  obtain ⟨hb, nh, nc, pl, ⟨h1, hn⟩, ⟨h2, hc⟩, ⟨h3, hp⟩, hd⟩ := mi.1
  obtain ⟨hnx, hx9, hcn, hc8⟩ := c.2.1
  have hK : (K_restore (σ.1 0 0 0) (σ.1 5 1 0)).1 ≤ 1 := by
    unfold K_restore
    split
    all_goals exact Nat.le_of_ble_eq_true rfl
  refine law_c0 (p := 2037) (e2 := 1) (RR := fun k b σ2 => RDY A (m + 1) σ2 k b) hA H csh_L_246 cv_L_248 rfl (t_L_restore hA (d := 10) (t_X7_restore hA hl (c.2.2.2.1 1 (by decide)).2) (fun r G' z => ⟨_, _, z.2.1, z.2.2⟩) (fun E G' z => ⟨ifE1 z.1 hK z.2.1, σ, z.2.2⟩) (by decide)) (wr1 hA) (fun k σ1 qq => ?_) (by decide) (by decide) (by decide) (by decide) dL_law_2037 dL_law_2038 dL_law_2039 dL_law_2042 dL_law_2044 dL_law_2045 dL_law_2048 (fun k b σ2 hr => law_tail hA H hr dL_law_2050 dL_law_2051 dL_law_2054 dL_law_2056 dL_law_2061 dL_law_2063 dL_law_2066 dL_law_2067 dL_law_2068 dL_law_2069 dL_law_2071 dL_law_2072 dL_law_2073 dL_law_2078 (by decide) (kk σ2 hr.2.2.2))
  have e1 : ∀ a9, 16 ≤ a9 → σ1.1 a9 = σ.1 a9 := fun a9 h9 => by
    rcases qq with ⟨-, -, rfl⟩ | ⟨-, -, rfl⟩
    · show (w3 (cp σ 0 1 (fun j => decide (j < 102))) 3 0 1 0).1 a9 = _
      exact (w3a (by omega)).trans (cpa (by omega))
    · rfl
  have q1 := q.cg (fun a9 h9 => e1 a9 (by omega))
  have es : σ1.1 20 0 4 = σ.1 0 0 0 := q1.2.2.2.1.1.trans c.2.2.2.2.1.1.symm
  refine (t_X8_restore hA).weaken (fun r G' z => ⟨_, _, z.1, z.2, ?_⟩) (fun _ _ z => z)
  have hz : ∀ j, 102 ≤ j → σ.1 5 0 j = 0 := fun j hj => hb.z hj
  rcases qq with ⟨rfl, h0, rfl⟩ | ⟨rfl, h0, rfl⟩
  · have n0 : ¬ σ.1 0 0 0 = 0 := fun z => by
      unfold K_restore at h0
      rw [if_pos z] at h0
      exact absurd h0 (by decide)
    have ns : ¬ sf = 0 := fun z => n0 (c.2.2.2.2.1.1.trans z)
    have hO : Ow m sv := by
      rcases mi.2.2.1 with z | z
      · exact absurd z ns
      · exact z.2
    have ev : K_restore ((sl (w3 (cp σ 0 1 (fun j => decide (j < 102))) 3 0 1 0) (K_restore (σ.1 0 0 0) (σ.1 5 1 0)).2.toInt64).1 20 0 4) ((sl (w3 (cp σ 0 1 (fun j => decide (j < 102))) 3 0 1 0) (K_restore (σ.1 0 0 0) (σ.1 5 1 0)).2.toInt64).1 23 0 0) = K_restore (σ.1 0 0 0) (σ.1 5 1 0) := by
      rw [es, congrFun (q1.2.2.2.1.2 ns) 0, ← congrFun (c.2.2.2.2.1.2 ns) 0]
    rw [ev]
    refine ⟨?_, by decide, fun _ => ?_, nx, sv, 0, h, sf, sv, rr, tl, tx, ft, T, (c.rest ns).cg (fun a9 h9 => ?_), q1.rest ns hz, ⟨hO.mono (Nat.le_succ m), fun j hj => by omega, (mi.mono (Nat.le_succ m)).2.2⟩, ?_⟩
    · unfold resR
      rw [if_neg (by rw [es]; exact n0), w3_ne (by omega), rowa (by decide), w3_eq]
      exact nI_0.symm
    · unfold resR
      rw [if_neg (by rw [es]; exact n0)]
      rfl
    · unfold resR
      rw [if_neg (by rw [es]; exact n0), w3a (by omega), rowa (by omega), w3a (by omega)]
      rfl
    · refine sb.cg ?_ ?_
      · unfold resR
        rw [if_neg (by rw [es]; exact n0), w3a (by decide), rowa (by decide), w3a (by decide)]
        exact e1 16 (by decide)
      · unfold resR
        rw [if_neg (by rw [es]; exact n0)]
        rfl
  · have y0 : σ1.1 20 0 4 = 0 := es.trans (Decidable.byContradiction (fun z => h0 (by
      unfold K_restore
      rw [if_neg z])))
    unfold resR
    rw [if_pos y0]
    exact ⟨w3_eq _ _ _ _ _, by decide, fun z => absurd z (by decide), iv9.t⟩

