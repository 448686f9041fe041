/-! the shapes of the law's cases -/
/-- what holds between two calls, m calls so far -/
def IV (A : AT) (m : Nat) (σ : Sg) : Prop := ∃ (nx : Nat) (w : Nat → Int32) (cn : Nat) (h : HF) (sf : Int32) (sv : Nat → Int32) (rr : RT) (tl : Nat) (tx : Nat → Int32) (ft : Int32) (T : List Nat), CK σ nx w cn h sf sv rr tl tx ft ∧ RK σ w cn h sf sv rr tl tx ft T ∧ MK m w cn h sf sv tl tx T ∧ SBok A σ T
/-- behind both calls: what is compared fits -/
def RDY (A : AT) (m : Nat) (σ : Sg) (k : Nat) (b : Int32) : Prop := σ.1 20 0 6 = nI k ∧ k < 1000 ∧ (k = 0 → σ.2.1 0 = b.toInt64) ∧ IV A m σ
abbrev LO (A : AT) (b0 i : Nat) : List (Nat × Value) := [(5, .int (nI i)), (0, .ref b0), (1, .ref (A 0 0 0)), (2, .ref (A 20 0 0)), (3, .ref (A 30 0 0)), (4, .ref (A 31 0 0))]
/-- the script, the room, the place of the call -/
def LH (s0 : State) (R : Room) (nL b0 L i : Nat) (xs : Nat → Int32) (cells slots : Nat) : Prop := va_T .int b0 L (fun j => .int (xs j)) (bA s0) s0 s0.heap ∧ L ≤ 1536 ∧ i + 2 < L ∧ 9 ≤ nL ∧ (16 * 13 ≤ R.frames ∧ 400 * 13 ≤ R.locals) ∧ cells + 24 ≤ R.cells ∧ slots + 816 ≤ R.slots
theorem nIz {k : Nat} (hk : k < 1000) : nI k = 0 ↔ k = 0 := by
  constructor
  · intro h
    have e := congrArg Int32.toNatClampNeg h
    rw [nI_clamp (by omega)] at e
    exact e.trans (by decide)
  · intro h
    rw [h]
    exact nI_0
theorem law_tail {D : va_G} {s0 : State} {mn : String} {nL : Nat} {ret : Option FieldType} {hh : List (Nat × Nat × Nat × Nat)} {l : Launch} {R : Room} {Z : ZT} {A : AT} {b0 L i : Nat} {xs : Nat → Int32} {cells slots p m : Nat} {σ : Sg} {k : Nat} {b : Int32} {off : Int} (hA : AOK s0.heap.size A) (H : LH s0 R nL b0 L i xs cells slots) (hr : RDY A m σ k b) (d0 : decode cL_law p = .ok (.aload_n 2, 1)) (d1 : decode cL_law (p + 1) = .ok (.invokevirtual 132, 3)) (d2 : decode cL_law (p + 4) = .ok (.iload 6, 2)) (d3 : decode cL_law (p + 6) = .ok (.if_icmp .eq 5, 3)) (d4 : decode cL_law (p + 11) = .ok (.iload 6, 2)) (d5 : decode cL_law (p + 13) = .ok (.ifCond .ne 15, 3)) (d6 : decode cL_law (p + 16) = .ok (.aload_n 3, 1)) (d7 : decode cL_law (p + 17) = .ok (.iconst 0, 1)) (d8 : decode cL_law (p + 18) = .ok (.laload, 1)) (d9 : decode cL_law (p + 19) = .ok (.iload 7, 2)) (d10 : decode cL_law (p + 21) = .ok (.i2l, 1)) (d11 : decode cL_law (p + 22) = .ok (.lcmp, 1)) (d12 : decode cL_law (p + 23) = .ok (.ifCond .eq 5, 3)) (d13 : decode cL_law (p + 28) = .ok (.goto off, 3)) (ht : ((p + 28 : Nat) : Int) + off = (2081 : Nat)) (kk : V D s0 RL mn cL_law nL ret hh l R Z 2081 (LO A b0 i) [] (HP A σ) (cells + 24) (slots + 816)) : V D s0 RL mn cL_law nL ret hh l R Z p ((7, .int b) :: (6, .int (nI k)) :: LO A b0 i) [] (HP A σ) (cells + 24) (slots + 816) := by
  obtain ⟨hT, hL, hi, hnL, hR, hc, hs⟩ := H
  refine V_aload_n (i := 2) d0 rfl rfl ?_
  refine Cv1_0 (d := 12) cv_L_132 d1 (t_X8_thrown hA) (hp20 hA) rfl rfl (Nat.le_of_ble_eq_true rfl) ⟨by omega, by omega⟩ (by decide) ⟨by omega, by omega⟩ ?_
  refine V_iload (i := 6) d2 rfl ?_
  refine V_icmp_eq (tgt := p + 11) d3 (by omega) (fun _ => ?_) (fun h => absurd hr.1 h)
  refine V_iload (i := 6) d4 rfl ?_
  refine V_if_ne (tgt := p + 28) d5 (by omega) (fun _ => ?_) (fun h => ?_)
  · refine V_goto (tgt := 2081) d13 ht ?_
    exact V.fin [2, 3, 4, 5, 6, 7] rfl rfl kk
  · refine V_aload_n (i := 3) d6 rfl rfl ?_
    refine V_iconst (v := 0) d7 (by decide) ?_
    refine V_lald (x := b.toInt64) d8 (hp30 hA) (vp_in_nI (n := 0) (N := 1) (by decide) (by decide)) (congrArg Value.long (hr.2.2.1 ((nIz hr.2.1).mp h))) ?_
    refine V_iload (i := 7) d9 rfl ?_
    refine V_i2l d10 rfl ?_
    refine V_lcmp d11 ?_
    refine V_if_eq (tgt := p + 28) d12 (by omega) (fun _ => ?_) (fun h => absurd ((lg_cmp_eq _ _).mpr rfl) h)
    refine V_goto (tgt := 2081) d13 ht ?_
    exact V.fin [2, 3, 4, 5, 6, 7] rfl rfl kk
theorem law_c0 {D : va_G} {s0 : State} {mn : String} {nL : Nat} {ret : Option FieldType} {hh : List (Nat × Nat × Nat × Nat)} {l : Launch} {R : Room} {Z : ZT} {A : AT} {b0 L i : Nat} {xs : Nat → Int32} {cells slots p : Nat} {σ : Sg} {i1 i2 nL1 nL2 e1 e2 mX sX : Nat} {y1 y2 : MethodName} {cc1 cc2 : ByteArray} {r1 r2 : Option FieldType} {hh1 : List (Nat × Nat × Nat × Nat)} {Post1 : Option Value → GH → Prop} {Q : Nat → Sg → Prop} {RR : Nat → Int32 → Sg → Prop} (hA : AOK s0.heap.size A) (H : LH s0 R nL b0 L i xs cells slots) (hC1 : CSH RL i1 y1 cc1 nL1 r1 hh1 2) (hC2 : CV RL i2 y2 cc2 nL2 r2 0) (hy2 : RX8 = y2.cls) (hM1 : TriH D s0 l y1 cc1 nL1 r1 hh1 e1 mX sX [.ref (A 0 0 0), .ref (A 30 0 0)] (HP A σ) Post1 noX) (hP1 : ∀ r G', Post1 r G' → ∃ (k : Nat) (σ1 : Sg), r = some (.int (nI k)) ∧ G' = HP A σ1 ∧ Q k σ1) (hM2 : ∀ k σ1, Q k σ1 → Tri D s0 l y2 cc2 nL2 r2 e2 0 0 [.ref (A 20 0 0)] (HP A σ1) (fun r G' => ∃ (b : Int32) (σ2 : Sg), r = some (.int b) ∧ G' = HP A σ2 ∧ RR k b σ2) noX) (hd1 : e1 < 12) (hd2 : e2 < 12) (hmX : mX ≤ 24) (hsX : sX ≤ 816) (d0 : decode cL_law p = .ok (.aload_n 1, 1)) (d1 : decode cL_law (p + 1) = .ok (.aload_n 3, 1)) (d2 : decode cL_law (p + 2) = .ok (.invokestatic i1, 3)) (d3 : decode cL_law (p + 5) = .ok (.istore 6, 2)) (d4 : decode cL_law (p + 7) = .ok (.aload_n 2, 1)) (d5 : decode cL_law (p + 8) = .ok (.invokevirtual i2, 3)) (d6 : decode cL_law (p + 11) = .ok (.istore 7, 2)) (kk : ∀ (k : Nat) (b : Int32) (σ2 : Sg), RR k b σ2 → V D s0 RL mn cL_law nL ret hh l R Z (p + 13) ((7, .int b) :: (6, .int (nI k)) :: LO A b0 i) [] (HP A σ2) (cells + 24) (slots + 816)) : V D s0 RL mn cL_law nL ret hh l R Z p (LO A b0 i) [] (HP A σ) cells slots := by
  obtain ⟨hT, hL, hi, hnL, hR, hc, hs⟩ := H
  refine V_aload_n (i := 1) d0 rfl rfl ?_
  refine V_aload_n (i := 3) d1 rfl rfl ?_
  refine V_callsH (d := 12) hC1 d2 hM1 rfl rfl (Nat.le_of_ble_eq_true rfl) ⟨by omega, by omega⟩ hd1 ⟨by omega, by omega⟩ (fun r G' h => ?_) (fun _ _ h => h.elim)
  obtain ⟨k, σ1, rfl, rfl, hq⟩ := hP1 r G' h
  refine V_istore (i := 6) d3 (by omega) ?_
  refine V_aload_n (i := 2) d4 rfl rfl ?_
  refine V_call (d := 12) hC2 d5 (hM2 k σ1 hq) (hp20 hA) rfl hy2 rfl rfl (Nat.le_of_ble_eq_true rfl) ⟨by omega, by omega⟩ hd2 ⟨by omega, by omega⟩ (fun r G' h => ?_) (fun _ _ h => h.elim)
  obtain ⟨b, σ2, rfl, rfl, hr⟩ := h
  refine V_istore (i := 7) d6 (by omega) ?_
  refine V.wid (k := cells + 24) (n := slots + 816) (by omega) (by omega) ?_
  exact V.fin [0, 1, 2, 3, 4, 5, 6, 7] rfl rfl (kk k b σ2 hr)
theorem law_c1 {D : va_G} {s0 : State} {mn : String} {nL : Nat} {ret : Option FieldType} {hh : List (Nat × Nat × Nat × Nat)} {l : Launch} {R : Room} {Z : ZT} {A : AT} {b0 L i : Nat} {xs : Nat → Int32} {cells slots p : Nat} {σ : Sg} {i1 i2 nL1 nL2 e1 e2 mX sX : Nat} {y1 y2 : MethodName} {cc1 cc2 : ByteArray} {r1 r2 : Option FieldType} {hh1 : List (Nat × Nat × Nat × Nat)} {Post1 : Option Value → GH → Prop} {Q : Nat → Sg → Prop} {RR : Nat → Int32 → Sg → Prop} (hA : AOK s0.heap.size A) (H : LH s0 R nL b0 L i xs cells slots) (hC1 : CSH RL i1 y1 cc1 nL1 r1 hh1 3) (hC2 : CV RL i2 y2 cc2 nL2 r2 1) (hy2 : RX8 = y2.cls) (hM1 : TriH D s0 l y1 cc1 nL1 r1 hh1 e1 mX sX [.ref (A 0 0 0), .int (xs (i + 1)), .ref (A 30 0 0)] (HP A σ) Post1 noX) (hP1 : ∀ r G', Post1 r G' → ∃ (k : Nat) (σ1 : Sg), r = some (.int (nI k)) ∧ G' = HP A σ1 ∧ Q k σ1) (hM2 : ∀ k σ1, Q k σ1 → Tri D s0 l y2 cc2 nL2 r2 e2 0 0 [.ref (A 20 0 0), .int (xs (i + 1))] (HP A σ1) (fun r G' => ∃ (b : Int32) (σ2 : Sg), r = some (.int b) ∧ G' = HP A σ2 ∧ RR k b σ2) noX) (hd1 : e1 < 12) (hd2 : e2 < 12) (hmX : mX ≤ 24) (hsX : sX ≤ 816) (d0 : decode cL_law p = .ok (.aload_n 1, 1)) (d1 : decode cL_law (p + 1) = .ok (.aload_n 0, 1)) (d2 : decode cL_law (p + 2) = .ok (.iload 5, 2)) (d3 : decode cL_law (p + 4) = .ok (.iconst 1, 1)) (d4 : decode cL_law (p + 5) = .ok (.iadd, 1)) (d5 : decode cL_law (p + 6) = .ok (.iaload, 1)) (d6 : decode cL_law (p + 7) = .ok (.aload_n 3, 1)) (d7 : decode cL_law (p + 8) = .ok (.invokestatic i1, 3)) (d8 : decode cL_law (p + 11) = .ok (.istore 6, 2)) (d9 : decode cL_law (p + 13) = .ok (.aload_n 2, 1)) (d10 : decode cL_law (p + 14) = .ok (.aload_n 0, 1)) (d11 : decode cL_law (p + 15) = .ok (.iload 5, 2)) (d12 : decode cL_law (p + 17) = .ok (.iconst 1, 1)) (d13 : decode cL_law (p + 18) = .ok (.iadd, 1)) (d14 : decode cL_law (p + 19) = .ok (.iaload, 1)) (d15 : decode cL_law (p + 20) = .ok (.invokevirtual i2, 3)) (d16 : decode cL_law (p + 23) = .ok (.istore 7, 2)) (kk : ∀ (k : Nat) (b : Int32) (σ2 : Sg), RR k b σ2 → V D s0 RL mn cL_law nL ret hh l R Z (p + 25) ((7, .int b) :: (6, .int (nI k)) :: LO A b0 i) [] (HP A σ2) (cells + 24) (slots + 816)) : V D s0 RL mn cL_law nL ret hh l R Z p (LO A b0 i) [] (HP A σ) cells slots := by
  obtain ⟨hT, hL, hi, hnL, hR, hc, hs⟩ := H
  refine V_aload_n (i := 1) d0 rfl rfl ?_
  refine V_aload_n (i := 0) d1 rfl rfl ?_
  refine V_iload (i := 5) d2 rfl ?_
  refine V_iconst (v := nI 1) d3 (by decide) ?_
  refine V_iadd d4 ?_
  refine V_ti hT (nI_add _ _) (by omega) (by omega) d5 ?_
  refine V_aload_n (i := 3) d6 rfl rfl ?_
  refine V_callsH (d := 12) hC1 d7 hM1 rfl rfl (Nat.le_of_ble_eq_true rfl) ⟨by omega, by omega⟩ hd1 ⟨by omega, by omega⟩ (fun r G' h => ?_) (fun _ _ h => h.elim)
  obtain ⟨k, σ1, rfl, rfl, hq⟩ := hP1 r G' h
  refine V_istore (i := 6) d8 (by omega) ?_
  refine V_aload_n (i := 2) d9 rfl rfl ?_
  refine V_aload_n (i := 0) d10 rfl rfl ?_
  refine V_iload (i := 5) d11 rfl ?_
  refine V_iconst (v := nI 1) d12 (by decide) ?_
  refine V_iadd d13 ?_
  refine V_ti hT (nI_add _ _) (by omega) (by omega) d14 ?_
  refine V_call (d := 12) hC2 d15 (hM2 k σ1 hq) (hp20 hA) rfl hy2 rfl rfl (Nat.le_of_ble_eq_true rfl) ⟨by omega, by omega⟩ hd2 ⟨by omega, by omega⟩ (fun r G' h => ?_) (fun _ _ h => h.elim)
  obtain ⟨b, σ2, rfl, rfl, hr⟩ := h
  refine V_istore (i := 7) d16 (by omega) ?_
  refine V.wid (k := cells + 24) (n := slots + 816) (by omega) (by omega) ?_
  exact V.fin [0, 1, 2, 3, 4, 5, 6, 7] rfl rfl (kk k b σ2 hr)
theorem law_c2 {D : va_G} {s0 : State} {mn : String} {nL : Nat} {ret : Option FieldType} {hh : List (Nat × Nat × Nat × Nat)} {l : Launch} {R : Room} {Z : ZT} {A : AT} {b0 L i : Nat} {xs : Nat → Int32} {cells slots p : Nat} {σ : Sg} {i1 i2 nL1 nL2 e1 e2 mX sX : Nat} {y1 y2 : MethodName} {cc1 cc2 : ByteArray} {r1 r2 : Option FieldType} {hh1 : List (Nat × Nat × Nat × Nat)} {Post1 : Option Value → GH → Prop} {Q : Nat → Sg → Prop} {RR : Nat → Int32 → Sg → Prop} (hA : AOK s0.heap.size A) (H : LH s0 R nL b0 L i xs cells slots) (hC1 : CSH RL i1 y1 cc1 nL1 r1 hh1 4) (hC2 : CV RL i2 y2 cc2 nL2 r2 2) (hy2 : RX8 = y2.cls) (hM1 : TriH D s0 l y1 cc1 nL1 r1 hh1 e1 mX sX [.ref (A 0 0 0), .int (xs (i + 1)), .int (xs (i + 2)), .ref (A 30 0 0)] (HP A σ) Post1 noX) (hP1 : ∀ r G', Post1 r G' → ∃ (k : Nat) (σ1 : Sg), r = some (.int (nI k)) ∧ G' = HP A σ1 ∧ Q k σ1) (hM2 : ∀ k σ1, Q k σ1 → Tri D s0 l y2 cc2 nL2 r2 e2 0 0 [.ref (A 20 0 0), .int (xs (i + 1)), .int (xs (i + 2))] (HP A σ1) (fun r G' => ∃ (b : Int32) (σ2 : Sg), r = some (.int b) ∧ G' = HP A σ2 ∧ RR k b σ2) noX) (hd1 : e1 < 12) (hd2 : e2 < 12) (hmX : mX ≤ 24) (hsX : sX ≤ 816) (d0 : decode cL_law p = .ok (.aload_n 1, 1)) (d1 : decode cL_law (p + 1) = .ok (.aload_n 0, 1)) (d2 : decode cL_law (p + 2) = .ok (.iload 5, 2)) (d3 : decode cL_law (p + 4) = .ok (.iconst 1, 1)) (d4 : decode cL_law (p + 5) = .ok (.iadd, 1)) (d5 : decode cL_law (p + 6) = .ok (.iaload, 1)) (d6 : decode cL_law (p + 7) = .ok (.aload_n 0, 1)) (d7 : decode cL_law (p + 8) = .ok (.iload 5, 2)) (d8 : decode cL_law (p + 10) = .ok (.iconst 2, 1)) (d9 : decode cL_law (p + 11) = .ok (.iadd, 1)) (d10 : decode cL_law (p + 12) = .ok (.iaload, 1)) (d11 : decode cL_law (p + 13) = .ok (.aload_n 3, 1)) (d12 : decode cL_law (p + 14) = .ok (.invokestatic i1, 3)) (d13 : decode cL_law (p + 17) = .ok (.istore 6, 2)) (d14 : decode cL_law (p + 19) = .ok (.aload_n 2, 1)) (d15 : decode cL_law (p + 20) = .ok (.aload_n 0, 1)) (d16 : decode cL_law (p + 21) = .ok (.iload 5, 2)) (d17 : decode cL_law (p + 23) = .ok (.iconst 1, 1)) (d18 : decode cL_law (p + 24) = .ok (.iadd, 1)) (d19 : decode cL_law (p + 25) = .ok (.iaload, 1)) (d20 : decode cL_law (p + 26) = .ok (.aload_n 0, 1)) (d21 : decode cL_law (p + 27) = .ok (.iload 5, 2)) (d22 : decode cL_law (p + 29) = .ok (.iconst 2, 1)) (d23 : decode cL_law (p + 30) = .ok (.iadd, 1)) (d24 : decode cL_law (p + 31) = .ok (.iaload, 1)) (d25 : decode cL_law (p + 32) = .ok (.invokevirtual i2, 3)) (d26 : decode cL_law (p + 35) = .ok (.istore 7, 2)) (kk : ∀ (k : Nat) (b : Int32) (σ2 : Sg), RR k b σ2 → V D s0 RL mn cL_law nL ret hh l R Z (p + 37) ((7, .int b) :: (6, .int (nI k)) :: LO A b0 i) [] (HP A σ2) (cells + 24) (slots + 816)) : V D s0 RL mn cL_law nL ret hh l R Z p (LO A b0 i) [] (HP A σ) cells slots := by
  obtain ⟨hT, hL, hi, hnL, hR, hc, hs⟩ := H
  refine V_aload_n (i := 1) d0 rfl rfl ?_
  refine V_aload_n (i := 0) d1 rfl rfl ?_
  refine V_iload (i := 5) d2 rfl ?_
  refine V_iconst (v := nI 1) d3 (by decide) ?_
  refine V_iadd d4 ?_
  refine V_ti hT (nI_add _ _) (by omega) (by omega) d5 ?_
  refine V_aload_n (i := 0) d6 rfl rfl ?_
  refine V_iload (i := 5) d7 rfl ?_
  refine V_iconst (v := nI 2) d8 (by decide) ?_
  refine V_iadd d9 ?_
  refine V_ti hT (nI_add _ _) (by omega) (by omega) d10 ?_
  refine V_aload_n (i := 3) d11 rfl rfl ?_
  refine V_callsH (d := 12) hC1 d12 hM1 rfl rfl (Nat.le_of_ble_eq_true rfl) ⟨by omega, by omega⟩ hd1 ⟨by omega, by omega⟩ (fun r G' h => ?_) (fun _ _ h => h.elim)
  obtain ⟨k, σ1, rfl, rfl, hq⟩ := hP1 r G' h
  refine V_istore (i := 6) d13 (by omega) ?_
  refine V_aload_n (i := 2) d14 rfl rfl ?_
  refine V_aload_n (i := 0) d15 rfl rfl ?_
  refine V_iload (i := 5) d16 rfl ?_
  refine V_iconst (v := nI 1) d17 (by decide) ?_
  refine V_iadd d18 ?_
  refine V_ti hT (nI_add _ _) (by omega) (by omega) d19 ?_
  refine V_aload_n (i := 0) d20 rfl rfl ?_
  refine V_iload (i := 5) d21 rfl ?_
  refine V_iconst (v := nI 2) d22 (by decide) ?_
  refine V_iadd d23 ?_
  refine V_ti hT (nI_add _ _) (by omega) (by omega) d24 ?_
  refine V_call (d := 12) hC2 d25 (hM2 k σ1 hq) (hp20 hA) rfl hy2 rfl rfl (Nat.le_of_ble_eq_true rfl) ⟨by omega, by omega⟩ hd2 ⟨by omega, by omega⟩ (fun r G' h => ?_) (fun _ _ h => h.elim)
  obtain ⟨b, σ2, rfl, rfl, hr⟩ := h
  refine V_istore (i := 7) d26 (by omega) ?_
  refine V.wid (k := cells + 24) (n := slots + 816) (by omega) (by omega) ?_
  exact V.fin [0, 1, 2, 3, 4, 5, 6, 7] rfl rfl (kk k b σ2 hr)
theorem law_ca {D : va_G} {s0 : State} {mn : String} {nL : Nat} {ret : Option FieldType} {hh : List (Nat × Nat × Nat × Nat)} {l : Launch} {R : Room} {Z : ZT} {A : AT} {b0 L i : Nat} {xs : Nat → Int32} {cells slots p : Nat} {σ : Sg} {i1 i2 nL1 nL2 e1 e2 mX sX : Nat} {y1 y2 : MethodName} {cc1 cc2 : ByteArray} {r1 r2 : Option FieldType} {hh1 : List (Nat × Nat × Nat × Nat)} {Post1 : Option Value → GH → Prop} {Q : Nat → Sg → Prop} {RR : Nat → Int32 → Sg → Prop} (hA : AOK s0.heap.size A) (H : LH s0 R nL b0 L i xs cells slots) (hC1 : CSH RL i1 y1 cc1 nL1 r1 hh1 3) (hC2 : CV RL i2 y2 cc2 nL2 r2 1) (hy2 : RX8 = y2.cls) (hM1 : TriH D s0 l y1 cc1 nL1 r1 hh1 e1 mX sX [.ref (A 0 0 0), .int (((xs (i + 1)).toUInt32 % 65536).toInt32), .ref (A 30 0 0)] (HP A σ) Post1 noX) (hP1 : ∀ r G', Post1 r G' → ∃ (k : Nat) (σ1 : Sg), r = some (.int (nI k)) ∧ G' = HP A σ1 ∧ Q k σ1) (hM2 : ∀ k σ1, Q k σ1 → Tri D s0 l y2 cc2 nL2 r2 e2 0 0 [.ref (A 20 0 0), .int (((xs (i + 1)).toUInt32 % 65536).toInt32)] (HP A σ1) (fun r G' => ∃ (b : Int32) (σ2 : Sg), r = some (.int b) ∧ G' = HP A σ2 ∧ RR k b σ2) noX) (hd1 : e1 < 12) (hd2 : e2 < 12) (hmX : mX ≤ 24) (hsX : sX ≤ 816) (d0 : decode cL_law p = .ok (.aload_n 1, 1)) (d1 : decode cL_law (p + 1) = .ok (.aload_n 0, 1)) (d2 : decode cL_law (p + 2) = .ok (.iload 5, 2)) (d3 : decode cL_law (p + 4) = .ok (.iconst 1, 1)) (d4 : decode cL_law (p + 5) = .ok (.iadd, 1)) (d5 : decode cL_law (p + 6) = .ok (.iaload, 1)) (d6 : decode cL_law (p + 7) = .ok (.i2c, 1)) (d7 : decode cL_law (p + 8) = .ok (.aload_n 3, 1)) (d8 : decode cL_law (p + 9) = .ok (.invokestatic i1, 3)) (d9 : decode cL_law (p + 12) = .ok (.istore 6, 2)) (d10 : decode cL_law (p + 14) = .ok (.aload_n 2, 1)) (d11 : decode cL_law (p + 15) = .ok (.aload_n 0, 1)) (d12 : decode cL_law (p + 16) = .ok (.iload 5, 2)) (d13 : decode cL_law (p + 18) = .ok (.iconst 1, 1)) (d14 : decode cL_law (p + 19) = .ok (.iadd, 1)) (d15 : decode cL_law (p + 20) = .ok (.iaload, 1)) (d16 : decode cL_law (p + 21) = .ok (.i2c, 1)) (d17 : decode cL_law (p + 22) = .ok (.invokevirtual i2, 3)) (d18 : decode cL_law (p + 25) = .ok (.istore 7, 2)) (kk : ∀ (k : Nat) (b : Int32) (σ2 : Sg), RR k b σ2 → V D s0 RL mn cL_law nL ret hh l R Z (p + 27) ((7, .int b) :: (6, .int (nI k)) :: LO A b0 i) [] (HP A σ2) (cells + 24) (slots + 816)) : V D s0 RL mn cL_law nL ret hh l R Z p (LO A b0 i) [] (HP A σ) cells slots := by
  obtain ⟨hT, hL, hi, hnL, hR, hc, hs⟩ := H
  refine V_aload_n (i := 1) d0 rfl rfl ?_
  refine V_aload_n (i := 0) d1 rfl rfl ?_
  refine V_iload (i := 5) d2 rfl ?_
  refine V_iconst (v := nI 1) d3 (by decide) ?_
  refine V_iadd d4 ?_
  refine V_ti hT (nI_add _ _) (by omega) (by omega) d5 ?_
  refine V_i2c d6 rfl ?_
  refine V_aload_n (i := 3) d7 rfl rfl ?_
  refine V_callsH (d := 12) hC1 d8 hM1 rfl rfl (Nat.le_of_ble_eq_true rfl) ⟨by omega, by omega⟩ hd1 ⟨by omega, by omega⟩ (fun r G' h => ?_) (fun _ _ h => h.elim)
  obtain ⟨k, σ1, rfl, rfl, hq⟩ := hP1 r G' h
  refine V_istore (i := 6) d9 (by omega) ?_
  refine V_aload_n (i := 2) d10 rfl rfl ?_
  refine V_aload_n (i := 0) d11 rfl rfl ?_
  refine V_iload (i := 5) d12 rfl ?_
  refine V_iconst (v := nI 1) d13 (by decide) ?_
  refine V_iadd d14 ?_
  refine V_ti hT (nI_add _ _) (by omega) (by omega) d15 ?_
  refine V_i2c d16 rfl ?_
  refine V_call (d := 12) hC2 d17 (hM2 k σ1 hq) (hp20 hA) rfl hy2 rfl rfl (Nat.le_of_ble_eq_true rfl) ⟨by omega, by omega⟩ hd2 ⟨by omega, by omega⟩ (fun r G' h => ?_) (fun _ _ h => h.elim)
  obtain ⟨b, σ2, rfl, rfl, hr⟩ := h
  refine V_istore (i := 7) d18 (by omega) ?_
  refine V.wid (k := cells + 24) (n := slots + 816) (by omega) (by omega) ?_
  exact V.fin [0, 1, 2, 3, 4, 5, 6, 7] rfl rfl (kk k b σ2 hr)
theorem law_q {D : va_G} {s0 : State} {mn : String} {nL : Nat} {ret : Option FieldType} {hh : List (Nat × Nat × Nat × Nat)} {l : Launch} {R : Room} {Z : ZT} {A : AT} {b0 L i : Nat} {xs : Nat → Int32} {cells slots p : Nat} {σ : Sg} {i1 i2 nL1 nL2 e1 e2 : Nat} {y1 y2 : MethodName} {cc1 cc2 : ByteArray} {r1 r2 : Option FieldType} {v : Int32} {σ1 σ2 : Sg} {off : Int} (hA : AOK s0.heap.size A) (H : LH s0 R nL b0 L i xs cells slots) (hC1 : CV RL i1 y1 cc1 nL1 r1 0) (hC2 : CV RL i2 y2 cc2 nL2 r2 0) (hy1 : RX7 = y1.cls) (hy2 : RX8 = y2.cls) (hM1 : Tri D s0 l y1 cc1 nL1 r1 e1 0 0 [.ref (A 0 0 0)] (HP A σ) (fun r G' => r = some (.int v) ∧ G' = HP A σ1) noX) (hM2 : Tri D s0 l y2 cc2 nL2 r2 e2 0 0 [.ref (A 20 0 0)] (HP A σ1) (fun r G' => r = some (.int v) ∧ G' = HP A σ2) noX) (hd1 : e1 < 12) (hd2 : e2 < 12) (d0 : decode cL_law p = .ok (.aload_n 1, 1)) (d1 : decode cL_law (p + 1) = .ok (.invokevirtual i1, 3)) (d2 : decode cL_law (p + 4) = .ok (.aload_n 2, 1)) (d3 : decode cL_law (p + 5) = .ok (.invokevirtual i2, 3)) (d4 : decode cL_law (p + 8) = .ok (.if_icmp .eq off, 3)) (ht : ((p + 8 : Nat) : Int) + off = (2081 : Nat)) (kk : V D s0 RL mn cL_law nL ret hh l R Z 2081 (LO A b0 i) [] (HP A σ2) (cells + 24) (slots + 816)) : V D s0 RL mn cL_law nL ret hh l R Z p (LO A b0 i) [] (HP A σ) cells slots := by
  obtain ⟨hT, hL, hi, hnL, hR, hc, hs⟩ := H
  refine V_aload_n (i := 1) d0 rfl rfl ?_
  refine Cv1_0 (d := 12) hC1 d1 hM1 (hp0 hA) rfl hy1 (Nat.le_of_ble_eq_true rfl) ⟨by omega, by omega⟩ hd1 ⟨by omega, by omega⟩ ?_
  refine V_aload_n (i := 2) d2 rfl rfl ?_
  refine Cv1_0 (d := 12) hC2 d3 hM2 (hp20 hA) rfl hy2 (Nat.le_of_ble_eq_true rfl) ⟨by omega, by omega⟩ hd2 ⟨by omega, by omega⟩ ?_
  refine V_icmp_eq (tgt := 2081) d4 ht (fun _ => ?_) (fun h => absurd rfl h)
  exact V.wid (k := cells + 24) (n := slots + 816) (by omega) (by omega) kk
