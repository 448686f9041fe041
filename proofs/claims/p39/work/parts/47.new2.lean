/-! constructors: houses, carriers, reasons, streets -/
theorem im_X0 : Cond.instanceMethod yX0_init ∈ WT := (wt_mem 96 (by decide +kernel) (by decide +kernel))
theorem ib_X0 : Cond.instantiable RX0 4 ∈ WT := (wt_mem 94 (by decide +kernel) (by decide +kernel))
theorem iz_X0 : Cond.initialized RX0 ∈ WT := (wt_mem 9 (by decide +kernel) (by decide +kernel))
theorem im_X3 : Cond.instanceMethod yX3_init ∈ WT := (wt_mem 52 (by decide +kernel) (by decide +kernel))
theorem ib_X3 : Cond.instantiable RX3 9 ∈ WT := (wt_mem 50 (by decide +kernel) (by decide +kernel))
theorem iz_X3 : Cond.initialized RX3 ∈ WT := (wt_mem 8 (by decide +kernel) (by decide +kernel))
theorem im_X4 : Cond.instanceMethod yX4_init ∈ WT := (wt_mem 173 (by decide +kernel) (by decide +kernel))
theorem ib_X4 : Cond.instantiable RX4 3 ∈ WT := (wt_mem 171 (by decide +kernel) (by decide +kernel))
theorem iz_X4 : Cond.initialized RX4 ∈ WT := (wt_mem 10 (by decide +kernel) (by decide +kernel))
theorem im_X5 : Cond.instanceMethod yX5_init ∈ WT := (wt_mem 43 (by decide +kernel) (by decide +kernel))
theorem ib_X5 : Cond.instantiable RX5 13 ∈ WT := (wt_mem 41 (by decide +kernel) (by decide +kernel))
theorem iz_X5 : Cond.initialized RX5 ∈ WT := (wt_mem 7 (by decide +kernel) (by decide +kernel))
theorem kw_X5_9 : Cond.classLink RX5 9 RX3 ∈ WT := (wt_mem 46 (by decide +kernel) (by decide +kernel))
theorem kw_X5_17 : Cond.classLink RX5 17 RX0 ∈ WT := (wt_mem 48 (by decide +kernel) (by decide +kernel))
theorem ao_X3 : Cond.arrayOver (.object RX3) ∈ lw_tbl := List.mem_of_getElem? (i := 47) (by decide +kernel)
theorem ao_X0 : Cond.arrayOver (.object RX0) ∈ lw_tbl := List.mem_of_getElem? (i := 49) (by decide +kernel)
theorem ao_X5 : Cond.arrayOver (.object RX5) ∈ lw_tbl := List.mem_of_getElem? (i := 202) (by decide +kernel)
theorem V_newq2 {D : va_G} {s0 : State} {own mn : String} {cc : ByteArray} {nL : Nat} {ret : Option FieldType} {hh : List (Nat × Nat × Nat × Nat)} {l : Launch} {R : Room} {Z : ZT} {pc : Nat} {lo : List (Nat × Value)} {st : List Value} {G : GH} {cells slots : Nat} {index : Nat} {C : String} {n : Int32} {N : Nat} (hdg : decode cc pc = .ok (.anewarray index, 3)) (hw : Cond.classLink own index C ∈ WT) (hw2 : Cond.arrayOver (.object C) ∈ lw_tbl) (hn : ¬ n < 0) (hN : n.toNatClampNeg = N) (hbytes : N * 4 ≤ 536870912) (hcells : cells + 1 ≤ R.cells) (hslots : slots + N ≤ R.slots) (kk : ∀ q : Nat, s0.heap.size ≤ q → G q = none → V D s0 own mn cc nL ret hh l R Z (pc + 3) lo (.ref q :: st) (gset G q (.inr (.object C, N, fun _ => .null))) (cells + 1) (slots + N)) : V D s0 own mn cc nL ret hh l R Z pc lo (.int n :: st) G cells slots := by
  intro p e s m args below meth c H locs ls C9 hS hE hl
  have hF := C9.2.2.2.2.2.2.2.2.2.1
  have hAO : va_AO C s := by
    obtain ⟨b, h1, -⟩ := hF.1
    exact va_AO.moved hF.2.1.alike (va_AO.of (h1 _ hw2))
  subst hN
  refine W.anew C9.1 C9.2.1 C9.2.2.2.2.1 (C9.2.2.2.2.2.1 _ hw) (va_AO.use hAO) rfl hdg rfl hn hbytes hcells hslots fun cA kA comp f1 f2 f3 f4 => ?_
  generalize hH1 : H.push ({ cls := cA, slots := Array.replicate n.toNatClampNeg .null, vm := .none } : Cell) = H1
  have z1 : H1.size = H.size + 1 := by rw [← hH1, Array.size_push]
  have e1 : H1[H.size]? = some (arrV cA n.toNatClampNeg (fun _ => .null)) := by rw [← hH1, Array.getElem?_push_size, ← arrV_new]
  have o1 : ∀ q : Nat, q < H.size → H1[q]? = H[q]? := fun q hq => by rw [← hH1, Array.getElem?_push, if_neg (Nat.ne_of_lt hq)]
  have hAr : ArrOfT s cA (.object C) := fun N z => ⟨(fun k h => by cases h), kA, f2, comp, f3⟩
  have hsz : s0.heap.size ≤ H.size := Nat.le_trans hF.2.2.1 hS.1
  exact kk H.size hsz hE.fresh p e s m args below meth c H1 locs ls C9 ⟨Nat.le_trans hS.1 (by omega), fun x h1 h2 => (o1 x (Nat.lt_of_lt_of_le h1 hS.1)).trans (hS.2.1 x h1 h2), hS.2.2⟩ (hE.new hsz ⟨cA, e1, hAr, ⟨kA, comp, f2, f3, f4, f1⟩⟩ o1) hl
theorem ac_int : Cond.arrayClass .int ∈ WT := (wt_mem 93 (by decide +kernel) (by decide +kernel))
theorem t_X3_init {D : va_G} {s0 : State} {l : Launch} {G : GH} {b : Nat} : Tri D s0 l yX3_init cX3_init 1 (none) 0 0 0 [.ref b] G (fun r G' => r = none ∧ G' = G) noX := by
  refine Tri.ofV (own := RX3) (mn := "<init>") (by decide +kernel) rfl rfl (Nat.le_of_ble_eq_true rfl) ?_
  refine V_aload_n (i := 0) dX3_init_0 rfl rfl ?_
  refine V_objInit dX3_init_1 oi_X3 oi_in oi_code (Nat.le_of_ble_eq_true rfl) (Nat.le_of_ble_eq_true rfl) ?_
  refine V_vret dX3_init_4 rfl (Nat.le_of_ble_eq_true rfl) (Nat.le_of_ble_eq_true rfl) ?_
  exact ⟨rfl, rfl⟩
theorem t_X0_init {D : va_G} {s0 : State} {l : Launch} {G : GH} {b : Nat} : Tri D s0 l yX0_init cX0_init 1 (none) 0 0 0 [.ref b] G (fun r G' => r = none ∧ G' = G) noX := by
  refine Tri.ofV (own := RX0) (mn := "<init>") (by decide +kernel) rfl rfl (Nat.le_of_ble_eq_true rfl) ?_
  refine V_aload_n (i := 0) dX0_init_0 rfl rfl ?_
  refine V_objInit dX0_init_1 oi_X0 oi_in oi_code (Nat.le_of_ble_eq_true rfl) (Nat.le_of_ble_eq_true rfl) ?_
  refine V_vret dX0_init_4 rfl (Nat.le_of_ble_eq_true rfl) (Nat.le_of_ble_eq_true rfl) ?_
  exact ⟨rfl, rfl⟩
theorem t_X4_init {D : va_G} {s0 : State} {l : Launch} {G : GH} {b : Nat} : Tri D s0 l yX4_init cX4_init 1 (none) 0 0 0 [.ref b] G (fun r G' => r = none ∧ G' = G) noX := by
  refine Tri.ofV (own := RX4) (mn := "<init>") (by decide +kernel) rfl rfl (Nat.le_of_ble_eq_true rfl) ?_
  refine V_aload_n (i := 0) dX4_init_0 rfl rfl ?_
  refine V_objInit dX4_init_1 oi_X4 oi_in oi_code (Nat.le_of_ble_eq_true rfl) (Nat.le_of_ble_eq_true rfl) ?_
  refine V_vret dX4_init_4 rfl (Nat.le_of_ble_eq_true rfl) (Nat.le_of_ble_eq_true rfl) ?_
  exact ⟨rfl, rfl⟩
/-- a new house, carrier, street -/
def ho0 : EC := .inl (3, [.int 0, .int 0, .int 0, .int 0, .int 0, .int 0, .int 0, .int 0, .int 0])
def ca0 : EC := .inl (0, [.int 0, .int 0, .int 0, .int 0])
def stF (f : Nat → Nat) : List Value := [.ref (f 0), .ref (f 1), .ref (f 2), .int 0, .int 0, .int 0, .int 0, .int 0, .int 100, .int 20, .int 3, .int 0, .int 0]
def stZ : List Value := [.null, .null, .null, .int 0, .int 0, .int 0, .int 0, .int 0, .int 0, .int 0, .int 0, .int 0, .int 0]
def ar8 (f : Nat → Nat) (o n : Nat) : Nat → Value := fun j => if j < n then .ref (f (o + j)) else .null
def hA (f : Nat → Nat) (n : Nat) : EC := .inr (.object RX3, 8, ar8 f 3 n)
def cA4 (f : Nat → Nat) (n : Nat) : EC := .inr (.object RX0, 4, ar8 f 11 n)
def wA4 : EC := .inr (.int, 4, fun _ => .int 0)
def stC (f : Nat → Nat) (C : Nat → EC) (i c : Nat) : Prop := C 0 = hA f i ∧ C 1 = cA4 f c ∧ C 2 = wA4 ∧ (∀ j, j < i → C (3 + j) = ho0) ∧ ∀ j, j < c → C (11 + j) = ca0
theorem ar8_s {f : Nat → Nat} {o n q : Nat} (h : n < 1000) : updV (ar8 f o n) (nI n).toNatClampNeg (.ref q) = ar8 (uf f (o + n) q) o (n + 1) := by
  rw [nI_clamp (by omega : n < 2 ^ 31)]
  funext j
  unfold updV ar8 uf
  by_cases e : j = n
  · rw [if_pos e, if_pos (by omega), if_pos (by omega)]
  · rw [if_neg e]
    by_cases e2 : j < n
    · rw [if_pos e2, if_pos (by omega), if_neg (by omega)]
    · rw [if_neg e2, if_neg (by omega)]
theorem ar8_c {f g : Nat → Nat} {o n : Nat} (h : ∀ j, j < n → f (o + j) = g (o + j)) : ar8 f o n = ar8 g o n := by
  funext j
  unfold ar8
  by_cases e : j < n
  · rw [if_pos e, if_pos e, h j e]
  · rw [if_neg e, if_neg e]
theorem stF_uf {f : Nat → Nat} {n q : Nat} (h : 3 ≤ n) : stF (uf f n q) = stF f := by
  unfold stF uf
  rw [if_neg (by omega), if_neg (by omega), if_neg (by omega)]
def stP (B : Nat) (G : GH) (b : Nat) (r : Option Value) (G' : GH) : Prop := ∃ (f : Nat → Nat) (C : Nat → EC), r = none ∧ FOK B G 15 f b ∧ G' = FH G 15 f C b (.inl (5, stF f)) ∧ stC f C 8 4

set_option maxHeartbeats 4000000 in
set_option maxRecDepth 100000 in
theorem t_X5_init {D : va_G} {s0 : State} {l : Launch} {G : GH} {b : Nat} (hb : G b = some (.inl (5, stZ))) : Tri D s0 l yX5_init cX5_init 2 (none) 1 15 104 [.ref b] G (stP s0.heap.size G b) noX := by
  refine Tri.ofV (own := RX5) (mn := "<init>") (by decide +kernel) rfl rfl (Nat.le_of_ble_eq_true rfl) ?_
  have loop2 : ∀ (n i : Nat) (f : Nat → Nat) (C : Nat → EC), i + n = 4 → FOK s0.heap.size G (11 + i) f b → stC f C 8 i → V D s0 RX5 "<init>" cX5_init 2 (none) [] l (rmd 1 15 104) (Zm D s0 15 104 (stP s0.heap.size G b) noX) 74 [(0, .ref b), (1, .int (nI i))] [] (FH G (11 + i) f C b (.inl (5, stF f))) (11 + i) (88 + 4 * i) := by
    intro n
    induction n with
    | zero =>
      intro i f C hi9 hf hC
      have hi4 : i = 4 := by omega
      subst hi4
      refine V_iload_n (i := 1) dX5_init_74 rfl rfl ?_
      refine V_iconst (v := nI 4) dX5_init_75 (by decide) ?_
      refine V_icmp_ge (tgt := 98) dX5_init_76 (by decide) (fun _ => ?_) (fun h => absurd (Int32.le_refl _) h)
      refine V_vret dX5_init_98 rfl (Nat.le_of_ble_eq_true rfl) (Nat.le_of_ble_eq_true rfl) ?_
      exact ⟨f, C, rfl, hf, rfl, hC⟩
    | succ n ih =>
      intro i f C hi9 hf hC
      obtain ⟨c0, c1, c2, c3, c4⟩ := hC
      refine V_iload_n (i := 1) dX5_init_74 rfl rfl ?_
      refine V_iconst (v := nI 4) dX5_init_75 (by decide) ?_
      refine V_icmp_ge (tgt := 98) dX5_init_76 (by decide) (fun h => absurd h (nI_ge (by omega) (by omega))) (fun _ => ?_)
      refine V_aload_n (i := 0) dX5_init_79 rfl rfl ?_
      refine V_getf fl_X5_19 dX5_init_80 FH_b rfl ?_
      refine V_iload_n (i := 1) dX5_init_83 rfl rfl ?_
      refine V_new (ci := 0) (C := RX0) (T := TX0) (N := 4) (ty := tyX0) (fs := [.int 0, .int 0, .int 0, .int 0]) dX5_init_84 rfl uw_X0 tyX0_ok kw_X5_17 ib_X0 iz_X0 (by decide) (by show 11 + i + 1 ≤ 15; omega) (by show 88 + 4 * i + 4 ≤ 104; omega) (fun q hq hn => ?_)
      have hf2 := FOK_new hf hn hq
      refine V.eqG (FH_new hf hn hq) ?_
      refine V_dup dX5_init_87 rfl ?_
      refine V_callIN (d := 1) cn_X5_38 im_X0 rfl dX5_init_88 t_X0_init rfl rfl (Nat.le_of_ble_eq_true rfl) ⟨Nat.le_refl _, Nat.le_refl _⟩ (by decide) ⟨by show 11 + i + 1 + 0 ≤ 15; omega, by show 88 + 4 * i + 4 + 0 ≤ 104; omega⟩ ?_ (fun _ _ h => h.elim)
      rintro r G' ⟨rfl, rfl⟩
      have k0 : uf f (11 + i) q 1 = f 1 := if_neg (by omega)
      have kq : uf f (11 + i) q (11 + i) = q := if_pos rfl
      have a1 : FH G (11 + i + 1) (uf f (11 + i) q) (uc C (11 + i) ca0) b (.inl (5, stF f)) (f 1) = some (.inr (.object RX0, 4, ar8 f 11 i)) := by
        have := FH_f (C := uc C (11 + i) ca0) (cb := .inl (5, stF f)) hf2 (show 1 < 11 + i + 1 by omega)
        rw [k0, show uc C (11 + i) ca0 1 = C 1 from if_neg (by omega), c1] at this
        exact this
      have a2 : FH G (11 + i + 1) (uf f (11 + i) q) (uc C (11 + i) ca0) b (.inl (5, stF f)) q = some ca0 := by
        have := FH_f (C := uc C (11 + i) ca0) (cb := .inl (5, stF f)) hf2 (show 11 + i < 11 + i + 1 by omega)
        rw [kq, show uc C (11 + i) ca0 (11 + i) = ca0 from if_pos rfl] at this
        exact this
      refine V_aast (ci := 0) (r := (RX0, TX0, 4)) dX5_init_91 a1 a2 rfl (vp_in_nI (by omega) (by decide)) ?_
      have a3 : gset (FH G (11 + i + 1) (uf f (11 + i) q) (uc C (11 + i) ca0) b (.inl (5, stF f))) (f 1) (.inr (.object RX0, 4, updV (ar8 f 11 i) (nI i).toNatClampNeg (.ref q))) = FH G (11 + (i + 1)) (uf f (11 + i) q) (uc (uc C (11 + i) ca0) 1 (cA4 (uf f (11 + i) q) (i + 1))) b (.inl (5, stF (uf f (11 + i) q))) := by
        have := FH_st (C := uc C (11 + i) ca0) (cb := .inl (5, stF f)) (c := cA4 (uf f (11 + i) q) (i + 1)) hf2 (show 1 < 11 + i + 1 by omega)
        rw [k0] at this
        rw [ar8_s (by omega), stF_uf (by omega)]
        exact this
      refine V.eqG a3 ?_
      refine V_iinc (i := 1) dX5_init_92 rfl (inc1 _) (by decide) ?_
      refine V_goto (tgt := 74) dX5_init_95 (by decide) ?_
      refine V.fin [1, 0] rfl rfl (V.wid (k := 11 + (i + 1)) (n := 88 + 4 * (i + 1)) (by omega) (by omega) (ih (i + 1) (uf f (11 + i) q) _ (by omega) hf2 ⟨?_, rfl, ?_, fun j hj => ?_, fun j hj => ?_⟩))
      · show uc (uc C (11 + i) ca0) 1 _ 0 = _
        rw [uc, if_neg (by decide), uc, if_neg (by omega), c0]
        exact congrArg (fun z => (Sum.inr (FieldType.object RX3, 8, z) : EC)) (ar8_c (fun j hj => (if_neg (by omega)).symm))
      · show uc (uc C (11 + i) ca0) 1 _ 2 = _
        rw [uc, if_neg (by decide), uc, if_neg (by omega), c2]
      · show uc (uc C (11 + i) ca0) 1 _ (3 + j) = _
        rw [uc, if_neg (by omega), uc, if_neg (by omega), c3 j hj]
      · show uc (uc C (11 + i) ca0) 1 _ (11 + j) = _
        rw [uc, if_neg (by omega), uc]
        by_cases e : j = i
        · rw [e, if_pos rfl]
        · rw [if_neg (by omega), c4 j (by omega)]
  have loop1 : ∀ (n i : Nat) (f : Nat → Nat) (C : Nat → EC), i + n = 8 → FOK s0.heap.size G (3 + i) f b → (C 0 = hA f i ∧ C 1 = cA4 f 0 ∧ C 2 = wA4 ∧ (∀ j, j < i → C (3 + j) = ho0)) → V D s0 RX5 "<init>" cX5_init 2 (none) [] l (rmd 1 15 104) (Zm D s0 15 104 (stP s0.heap.size G b) noX) 47 [(0, .ref b), (1, .int (nI i))] [] (FH G (3 + i) f C b (.inl (5, stF f))) (3 + i) (16 + 9 * i) := by
    intro n
    induction n with
    | zero =>
      intro i f C hi9 hf hC
      have hi4 : i = 8 := by omega
      subst hi4
      refine V_iload_n (i := 1) dX5_init_47 rfl rfl ?_
      refine V_bipush (v := nI 8) dX5_init_48 (by decide) ?_
      refine V_icmp_ge (tgt := 72) dX5_init_50 (by decide) (fun _ => ?_) (fun h => absurd (Int32.le_refl _) h)
      refine V_iconst (v := nI 0) dX5_init_72 (by decide) ?_
      refine V_istore_n (i := 1) dX5_init_73 rfl (by decide) ?_
      exact V.fin [1, 0] rfl rfl (loop2 4 0 f C rfl hf ⟨hC.1, hC.2.1, hC.2.2.1, hC.2.2.2, fun j hj => absurd hj (Nat.not_lt_zero j)⟩)
    | succ n ih =>
      intro i f C hi9 hf hC
      obtain ⟨c0, c1, c2, c3⟩ := hC
      refine V_iload_n (i := 1) dX5_init_47 rfl rfl ?_
      refine V_bipush (v := nI 8) dX5_init_48 (by decide) ?_
      refine V_icmp_ge (tgt := 72) dX5_init_50 (by decide) (fun h => absurd h (nI_ge (by omega) (by omega))) (fun _ => ?_)
      refine V_aload_n (i := 0) dX5_init_53 rfl rfl ?_
      refine V_getf fl_X5_11 dX5_init_54 FH_b rfl ?_
      refine V_iload_n (i := 1) dX5_init_57 rfl rfl ?_
      refine V_new (ci := 3) (C := RX3) (T := TX3) (N := 9) (ty := tyX3) (fs := [.int 0, .int 0, .int 0, .int 0, .int 0, .int 0, .int 0, .int 0, .int 0]) dX5_init_58 rfl uw_X3 tyX3_ok kw_X5_9 ib_X3 iz_X3 (by decide) (by show 3 + i + 1 ≤ 15; omega) (by show 16 + 9 * i + 9 ≤ 104; omega) (fun q hq hn => ?_)
      have hf2 := FOK_new hf hn hq
      refine V.eqG (FH_new hf hn hq) ?_
      refine V_dup dX5_init_61 rfl ?_
      refine V_callIN (d := 1) cn_X5_37 im_X3 rfl dX5_init_62 t_X3_init rfl rfl (Nat.le_of_ble_eq_true rfl) ⟨Nat.le_refl _, Nat.le_refl _⟩ (by decide) ⟨by show 3 + i + 1 + 0 ≤ 15; omega, by show 16 + 9 * i + 9 + 0 ≤ 104; omega⟩ ?_ (fun _ _ h => h.elim)
      rintro r G' ⟨rfl, rfl⟩
      have k0 : uf f (3 + i) q 0 = f 0 := if_neg (by omega)
      have kq : uf f (3 + i) q (3 + i) = q := if_pos rfl
      have a1 : FH G (3 + i + 1) (uf f (3 + i) q) (uc C (3 + i) ho0) b (.inl (5, stF f)) (f 0) = some (.inr (.object RX3, 8, ar8 f 3 i)) := by
        have := FH_f (C := uc C (3 + i) ho0) (cb := .inl (5, stF f)) hf2 (show 0 < 3 + i + 1 by omega)
        rw [k0, show uc C (3 + i) ho0 0 = C 0 from if_neg (by omega), c0] at this
        exact this
      have a2 : FH G (3 + i + 1) (uf f (3 + i) q) (uc C (3 + i) ho0) b (.inl (5, stF f)) q = some ho0 := by
        have := FH_f (C := uc C (3 + i) ho0) (cb := .inl (5, stF f)) hf2 (show 3 + i < 3 + i + 1 by omega)
        rw [kq, show uc C (3 + i) ho0 (3 + i) = ho0 from if_pos rfl] at this
        exact this
      refine V_aast (ci := 3) (r := (RX3, TX3, 9)) dX5_init_65 a1 a2 rfl (vp_in_nI (by omega) (by decide)) ?_
      have a3 : gset (FH G (3 + i + 1) (uf f (3 + i) q) (uc C (3 + i) ho0) b (.inl (5, stF f))) (f 0) (.inr (.object RX3, 8, updV (ar8 f 3 i) (nI i).toNatClampNeg (.ref q))) = FH G (3 + (i + 1)) (uf f (3 + i) q) (uc (uc C (3 + i) ho0) 0 (hA (uf f (3 + i) q) (i + 1))) b (.inl (5, stF (uf f (3 + i) q))) := by
        have := FH_st (C := uc C (3 + i) ho0) (cb := .inl (5, stF f)) (c := hA (uf f (3 + i) q) (i + 1)) hf2 (show 0 < 3 + i + 1 by omega)
        rw [k0] at this
        rw [ar8_s (by omega), stF_uf (by omega)]
        exact this
      refine V.eqG a3 ?_
      refine V_iinc (i := 1) dX5_init_66 rfl (inc1 _) (by decide) ?_
      refine V_goto (tgt := 47) dX5_init_69 (by decide) ?_
      refine V.fin [1, 0] rfl rfl (V.wid (k := 3 + (i + 1)) (n := 16 + 9 * (i + 1)) (by omega) (by omega) (ih (i + 1) (uf f (3 + i) q) _ (by omega) hf2 ⟨rfl, ?_, ?_, fun j hj => ?_⟩))
      · show uc (uc C (3 + i) ho0) 0 _ 1 = _
        rw [uc, if_neg (by decide), uc, if_neg (by omega), c1]
        exact congrArg (fun z => (Sum.inr (FieldType.object RX0, 4, z) : EC)) (ar8_c (fun j hj => absurd hj (Nat.not_lt_zero j)))
      · show uc (uc C (3 + i) ho0) 0 _ 2 = _
        rw [uc, if_neg (by decide), uc, if_neg (by omega), c2]
      · show uc (uc C (3 + i) ho0) 0 _ (3 + j) = _
        rw [uc, if_neg (by omega), uc]
        by_cases e : j = i
        · rw [e, if_pos rfl]
        · rw [if_neg (by omega), c3 j (by omega)]
  refine V_aload_n (i := 0) dX5_init_0 rfl rfl ?_
  refine V_objInit dX5_init_1 oi_X5 oi_in oi_code (Nat.le_of_ble_eq_true rfl) (Nat.le_of_ble_eq_true rfl) ?_
  refine V.eqG (FH_0 (f := fun _ => 0) (C := fun _ => wA4) hb) ?_
  have h0 : FOK s0.heap.size G 0 (fun _ => 0) b := FOK_0
  refine V_aload_n (i := 0) dX5_init_4 rfl rfl ?_
  refine V_bipush (v := 8) dX5_init_5 (by decide) ?_
  refine V_newq2 (C := RX3) (N := 8) dX5_init_7 kw_X5_9 ao_X3 (by decide) (by decide) (by decide) (Nat.le_of_ble_eq_true rfl) (Nat.le_of_ble_eq_true rfl) (fun q1 hq1 hn1 => ?_)
  have h1 := FOK_new h0 hn1 hq1
  refine V.eqG (FH_new h0 hn1 hq1) ?_
  refine V_putf (ty := .array (.object RX3)) fl_X5_11 dX5_init_10 FH_b (fun q9 hq9 => by cases hq9; first | exact Or.inl rfl | exact Or.inr ⟨rfl, rfl, rfl⟩) (fun q9 hq9 => by cases hq9; decide +kernel) rfl rfl (Nat.le_of_ble_eq_true rfl) ?_
  refine V.eqG FH_sb ?_
  refine V_aload_n (i := 0) dX5_init_13 rfl rfl ?_
  refine V_iconst (v := 4) dX5_init_14 (by decide) ?_
  refine V_newq2 (C := RX0) (N := 4) dX5_init_15 kw_X5_17 ao_X0 (by decide) (by decide) (by decide) (Nat.le_of_ble_eq_true rfl) (Nat.le_of_ble_eq_true rfl) (fun q2 hq2 hn2 => ?_)
  have h2 := FOK_new h1 hn2 hq2
  refine V.eqG (FH_new h1 hn2 hq2) ?_
  refine V_putf (ty := .array (.object RX0)) fl_X5_19 dX5_init_18 FH_b (fun q9 hq9 => by cases hq9; first | exact Or.inl rfl | exact Or.inr ⟨rfl, rfl, rfl⟩) (fun q9 hq9 => by cases hq9; decide +kernel) rfl rfl (Nat.le_of_ble_eq_true rfl) ?_
  refine V.eqG FH_sb ?_
  refine V_aload_n (i := 0) dX5_init_21 rfl rfl ?_
  refine V_iconst (v := 4) dX5_init_22 (by decide) ?_
  refine V_newa (ty := .int) (N := 4) dX5_init_23 ac_int rfl (by decide) (by decide) (by decide) (Nat.le_of_ble_eq_true rfl) (Nat.le_of_ble_eq_true rfl) (fun C z => by cases z) (fun q3 hq3 hn3 => ?_)
  have h3 := FOK_new h2 hn3 hq3
  refine V.eqG (FH_new h2 hn3 hq3) ?_
  refine V_putf (ty := .array .int) fl_X5_23 dX5_init_25 FH_b (fun q9 hq9 => by cases hq9; first | exact Or.inl rfl | exact Or.inr ⟨rfl, rfl, rfl⟩) (fun q9 hq9 => by cases hq9; decide +kernel) rfl rfl (Nat.le_of_ble_eq_true rfl) ?_
  refine V.eqG FH_sb ?_
  refine V_aload_n (i := 0) dX5_init_28 rfl rfl ?_
  refine V_bipush (v := 100) dX5_init_29 (by decide) ?_
  refine V_putf (ty := .int) fl_X5_27 dX5_init_31 FH_b (fun q9 hq9 => by cases hq9; first | exact Or.inl rfl | exact Or.inr ⟨rfl, rfl, rfl⟩) (fun q9 hq9 => by cases hq9; decide +kernel) rfl rfl (Nat.le_of_ble_eq_true rfl) ?_
  refine V.eqG FH_sb ?_
  refine V_aload_n (i := 0) dX5_init_34 rfl rfl ?_
  refine V_bipush (v := 20) dX5_init_35 (by decide) ?_
  refine V_putf (ty := .int) fl_X5_31 dX5_init_37 FH_b (fun q9 hq9 => by cases hq9; first | exact Or.inl rfl | exact Or.inr ⟨rfl, rfl, rfl⟩) (fun q9 hq9 => by cases hq9; decide +kernel) rfl rfl (Nat.le_of_ble_eq_true rfl) ?_
  refine V.eqG FH_sb ?_
  refine V_aload_n (i := 0) dX5_init_40 rfl rfl ?_
  refine V_iconst (v := 3) dX5_init_41 (by decide) ?_
  refine V_putf (ty := .int) fl_X5_34 dX5_init_42 FH_b (fun q9 hq9 => by cases hq9; first | exact Or.inl rfl | exact Or.inr ⟨rfl, rfl, rfl⟩) (fun q9 hq9 => by cases hq9; decide +kernel) rfl rfl (Nat.le_of_ble_eq_true rfl) ?_
  refine V.eqG FH_sb ?_
  refine V_iconst (v := nI 0) dX5_init_45 (by decide) ?_
  refine V_istore_n (i := 1) dX5_init_46 rfl (by decide) ?_
  refine V.fin [1, 0] rfl rfl (loop1 8 0 _ _ rfl h3 ⟨?_, ?_, rfl, fun j hj => absurd hj (Nat.not_lt_zero j)⟩)
  · exact congrArg (fun z => (Sum.inr (FieldType.object RX3, 8, z) : EC)) (funext fun j => (if_neg (Nat.not_lt_zero j)).symm)
  · exact congrArg (fun z => (Sum.inr (FieldType.object RX0, 4, z) : EC)) (funext fun j => (if_neg (Nat.not_lt_zero j)).symm)

