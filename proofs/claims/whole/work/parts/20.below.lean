/-! what lies below: static arrays, texts; rows over them; String.indexOf, String.charAt -/
abbrev FLC : List Cond := flatC (Jvm.Cond.and given_1 narrow_1)
theorem fl_mem {w : Cond} (i : Nat) (h : FLC[i]? = some w) : w ∈ FLC := List.mem_of_getElem? h
theorem bA_out {s0 : State} : ∀ a : Nat, a < s0.heap.size → ¬ bA s0 a := fun a ha q => absurd ha (Nat.not_lt.mpr q)
theorem S0.row {s0 : State} (h : S0 s0) : ∃ b : Nat, (∀ w ∈ lw_tbl, w.before #[Value.ref b] s0 = true) ∧ ∀ w ∈ FLC, w.before #[Value.ref b] s0 = true := by
  obtain ⟨b, h1, h2⟩ := h
  exact ⟨b, h1, flat_of_before _ h2⟩
/-- a static array of known numbers -/
def TabB (s0 : State) (C n d : String) (ty : FieldType) (N : Nat) (f : Nat → Int32) (t : Nat) : Prop := va_Z C n d (.ref t) (bA s0) s0 s0.heap ∧ va_T ty t N (fun j => .int (f j)) (bA s0) s0 s0.heap
theorem S0.tab {s0 : State} (h : S0 s0) {C n d : String} {ty : FieldType} {N : Nat} {f : Nat → Int32} (hN : N < 2 ^ 31) (h1 : Cond.laysStatic C n d ∈ lw_tbl) (h2 : Cond.initialized C ∈ lw_tbl) (h3 : Cond.arrayOf (.static C n d) ty ∈ FLC) (h4 : Cond.eq (.length (.static C n d)) (.int (Int32.ofNat N)) ∈ FLC) (h5 : ∀ j, j < N → Cond.eq (.elem (.static C n d) (.int (Int32.ofNat j))) (.int (f j)) ∈ FLC) : ∃ t, TabB s0 C n d ty N f t := by
  obtain ⟨b, g1, g2⟩ := h.row
  obtain ⟨t, ht, hT⟩ := va_Tof (f := fun j => .int (f j)) (A := bA s0) hN (g2 _ h3) (va_eqt (g2 _ h4)) (fun j hj => va_eqt (g2 _ (h5 j hj))) bA_out
  exact ⟨t, va_Zof (g1 _ h1) (g1 _ h2) ht bA_out, hT⟩
/-- a text in the pool: its object sa, its bytes sv -/
def StrB (s0 : State) (sa sv N : Nat) (f : Nat → Int32) : Prop := va_O "java/lang/String" sa (bA s0) s0 s0.heap ∧ va_OF "java/lang/String" "coder" "B" (.int 0) sa (bA s0) s0 s0.heap ∧ va_OF "java/lang/String" "value" "[B" (.ref sv) sa (bA s0) s0 s0.heap ∧ va_T .byte sv N (fun j => .int (f j)) (bA s0) s0 s0.heap
theorem S0.strc {s0 : State} (h : S0 s0) {own tx : String} {k N : Nat} {f : List Int32} (hN : N < 2 ^ 31) (h1 : Cond.stringRef own k tx ∈ lw_tbl) (e1 : Cond.exactly (.string own k) "java/lang/String" ∈ FLC) (e2 : Cond.eq (.field (.string own k) "java/lang/String" "coder" "B") (.int 0) ∈ FLC) (e3 : Cond.arrayOf (.field (.string own k) "java/lang/String" "value" "[B") .byte ∈ FLC) (e4 : Cond.eq (.length (.field (.string own k) "java/lang/String" "value" "[B")) (.int (Int32.ofNat N)) ∈ FLC) (e5 : ∀ j, j < N → Cond.eq (.elem (.field (.string own k) "java/lang/String" "value" "[B") (.int (Int32.ofNat j))) (.int (f.getD j 0)) ∈ FLC) : ∃ sa sv, vk_R own k tx sa s0 ∧ StrB s0 sa sv N (fun j => f.getD j 0) := by
  obtain ⟨b, g1, g2⟩ := h.row
  have z : ∀ {P : Nat → Prop}, P 0 → ∀ i, i < 1 → P i := fun hp i hi => (show i = 0 by omega) ▸ hp
  obtain ⟨adK, adV, ⟨hS, -⟩, hev⟩ := vk_Sof (s := s0) (N := 1) (tm := fun _ => .string own k) (len := [N]) (byt := [f]) (A := bA s0) (z (P := fun i => [N].getD i 0 < 2 ^ 31) hN) (fun i hi => g2 _ e1) (fun i hi => g2 _ e2) (fun i hi => g2 _ e3) (z (P := fun i => (Cond.eq (.length (.field (.string own k) "java/lang/String" "value" "[B")) (.int (Int32.ofNat ([N].getD i 0)))).before #[Value.ref b] s0 = true) (g2 _ e4)) (z (P := fun i => ∀ j : Nat, j < [N].getD i 0 → (Cond.eq (.elem (.field (.string own k) "java/lang/String" "value" "[B") (.int (Int32.ofNat j))) (.int (([f].getD i []).getD j 0))).before #[Value.ref b] s0 = true) (fun j hj => g2 _ (e5 j hj))) (fun i j hi hj hij => absurd (show i = j by omega) hij) bA_out
  exact ⟨adK 0, adV 0, vk_R.of (g1 _ h1) (hev 0 (by omega)), hS 0 (by omega)⟩
theorem Fr.z {s0 s : State} (hF : Fr s0 s s.heap) {C n d : String} {v : Value} (h : va_Z C n d v (bA s0) s0 s0.heap) : va_Z C n d v (bA s0) s s.heap := va_Z.moved hF.2.1.alike (h.kept (fun a ha _ => hF.2.2.2 a ha))
theorem Fr.t {s0 s : State} (hF : Fr s0 s s.heap) {ty : FieldType} {t N : Nat} {f : Nat → Value} (h : va_T ty t N f (bA s0) s0 s0.heap) : va_T ty t N f (bA s0) s s.heap := va_T.moved hF.2.1.alike (h.kept (fun a ha _ => hF.2.2.2 a ha))
theorem Fr.of {s0 s : State} (hF : Fr s0 s s.heap) {o n d : String} {v : Value} {t : Nat} (h : va_OF o n d v t (bA s0) s0 s0.heap) : va_OF o n d v t (bA s0) s s.heap := va_OF.moved hF.2.1.alike (h.kept (fun a ha _ => hF.2.2.2 a ha))
theorem Fr.o {s0 s : State} (hF : Fr s0 s s.heap) {C : String} {t : Nat} (h : va_O C t (bA s0) s0 s0.heap) : va_O C t (bA s0) s s.heap := va_O.moved hF.2.1.alike (h.kept (fun a ha _ => hF.2.2.2 a ha))
section VB
variable {D : va_G} {s0 : State} {own mn : String} {cc : ByteArray} {nL : Nat} {ret : Option FieldType} {hh : List (Nat × Nat × Nat × Nat)} {l : Launch} {R : Room} {Z : ZT} {pc : Nat} {lo : List (Nat × Value)} {st : List Value} {G : GH} {cells slots : Nat}
theorem V_ineg {x : Int32} (hdg : decode cc pc = .ok (.ineg, 1)) (k : V D s0 own mn cc nL ret hh l R Z (pc + 1) lo (.int (-x) :: st) G cells slots) : V D s0 own mn cc nL ret hh l R Z pc lo (.int x :: st) G cells slots := fun p e s m args below meth c H locs ls C9 hS hE hl => lv_ineg C9.1 C9.2.1 hdg (k p e s m args below meth c H locs ls C9 hS hE hl)
theorem V_ishr {x y : Int32} (hdg : decode cc pc = .ok (.ishr, 1)) (k : V D s0 own mn cc nL ret hh l R Z (pc + 1) lo (.int (x >>> (y &&& 31)) :: st) G cells slots) : V D s0 own mn cc nL ret hh l R Z pc lo (.int y :: .int x :: st) G cells slots := fun p e s m args below meth c H locs ls C9 hS hE hl => lv_ishr C9.1 C9.2.1 hdg (k p e s m args below meth c H locs ls C9 hS hE hl)
theorem V_ishl {x y : Int32} (hdg : decode cc pc = .ok (.ishl, 1)) (k : V D s0 own mn cc nL ret hh l R Z (pc + 1) lo (.int (x <<< (y &&& 31)) :: st) G cells slots) : V D s0 own mn cc nL ret hh l R Z pc lo (.int y :: .int x :: st) G cells slots := fun p e s m args below meth c H locs ls C9 hS hE hl => lv_ishl C9.1 C9.2.1 hdg (k p e s m args below meth c H locs ls C9 hS hE hl)
theorem V_i2b {x v : Int32} (hdg : decode cc pc = .ok (.i2b, 1)) (hv : x.toInt8.toInt32 = v) (k : V D s0 own mn cc nL ret hh l R Z (pc + 1) lo (.int v :: st) G cells slots) : V D s0 own mn cc nL ret hh l R Z pc lo (.int x :: st) G cells slots := fun p e s m args below meth c H locs ls C9 hS hE hl => lv_i2b C9.1 C9.2.1 hdg hv (k p e s m args below meth c H locs ls C9 hS hE hl)
theorem V_dup_x1 {va vb : Value} (hdg : decode cc pc = .ok (.dup_x1, 1)) (hva : va.category = 1) (hvb : vb.category = 1) (k : V D s0 own mn cc nL ret hh l R Z (pc + 1) lo (va :: vb :: va :: st) G cells slots) : V D s0 own mn cc nL ret hh l R Z pc lo (va :: vb :: st) G cells slots := fun p e s m args below meth c H locs ls C9 hS hE hl => lv_dup_x1 C9.1 C9.2.1 hdg hva hvb (k p e s m args below meth c H locs ls C9 hS hE hl)
theorem V_ldcI {index : Nat} {v : Int32} (hw : Cond.constant own index v ∈ WT) (hdg : decode cc pc = .ok (.ldc index, 2)) (k : V D s0 own mn cc nL ret hh l R Z (pc + 2) lo (.int v :: st) G cells slots) : V D s0 own mn cc nL ret hh l R Z pc lo st G cells slots := fun p e s m args below meth c H locs ls C9 hS hE hl => lv_ldc C9.1 C9.2.1 C9.2.2.2.2.1 (C9.2.2.2.2.2.1 _ hw) hdg (k p e s m args below meth c H locs ls C9 hS hE hl)
theorem V_ldcS {index q : Nat} {tx : String} (hZ : vk_R own index tx q s0) (hdg : decode cc pc = .ok (.ldc index, 2)) (k : V D s0 own mn cc nL ret hh l R Z (pc + 2) lo (.ref q :: st) G cells slots) : V D s0 own mn cc nL ret hh l R Z pc lo st G cells slots := fun p e s m args below meth c H locs ls C9 hS hE hl => va_ldcS C9.1 C9.2.1 C9.2.2.2.2.1 (vk_R.warm C9.2.2.2.2.2.2.2.2.2.1.2.1 hZ) hdg (k p e s m args below meth c H locs ls C9 hS hE hl)
theorem V_gst {index : Nat} {C n d : String} {v : Value} (hZ : va_Z C n d v (bA s0) s0 s0.heap) (hlink : Cond.fieldLink own index C n d ∈ WT) (hdg : decode cc pc = .ok (.getstatic index, 3)) (k : V D s0 own mn cc nL ret hh l R Z (pc + 3) lo (v :: st) G cells slots) : V D s0 own mn cc nL ret hh l R Z pc lo st G cells slots := fun p e s m args below meth c H locs ls C9 hS hE hl => va_gets C9.1 C9.2.1 (C9.2.2.2.2.2.2.2.2.2.1.z hZ) hS C9.2.2.2.2.1 (C9.2.2.2.2.2.1 _ hlink) (fun _ h => h) hdg (k p e s m args below meth c H locs ls C9 hS hE hl)
theorem V_gstN {index : Nat} {C n d host : String} {v : Value} (hZ : va_Z C n d v (bA s0) s0 s0.heap) (hlink : Cond.fieldLinkNest own index C n d host ∈ lw_tbl) (hdg : decode cc pc = .ok (.getstatic index, 3)) (k : V D s0 own mn cc nL ret hh l R Z (pc + 3) lo (v :: st) G cells slots) : V D s0 own mn cc nL ret hh l R Z pc lo st G cells slots := fun p e s m args below meth c H locs ls C9 hS hE hl => va_getsN C9.1 C9.2.1 (C9.2.2.2.2.2.2.2.2.2.1.z hZ) hS C9.2.2.2.2.1 (va_Nw.use rfl (va_Nw.warmF C9.2.2.2.2.2.2.2.2.2.1.2.1 (C9.2.2.2.2.2.2.2.2.2.1.1.nw hlink rfl))) (fun _ h => h) hdg (k p e s m args below meth c H locs ls C9 hS hE hl)
theorem V_getfB {index q : Nat} {oo n d : String} {v : Value} (h0 : va_OF oo n d v q (bA s0) s0 s0.heap) (hlink : Cond.fieldLink own index oo n d ∈ WT) (hdg : decode cc pc = .ok (.getfield index, 3)) (k : V D s0 own mn cc nL ret hh l R Z (pc + 3) lo (v :: st) G cells slots) : V D s0 own mn cc nL ret hh l R Z pc lo (.ref q :: st) G cells slots := fun p e s m args below meth c H locs ls C9 hS hE hl => vk_getf C9.1 C9.2.1 (C9.2.2.2.2.2.2.2.2.2.1.of h0) hS C9.2.2.2.2.1 (C9.2.2.2.2.2.1 _ hlink) (fun _ h => h) hdg (k p e s m args below meth c H locs ls C9 hS hE hl)

theorem V_ti {t N j : Nat} {f : Nat → Int32} {i : Int32} (hT : va_T .int t N (fun j => .int (f j)) (bA s0) s0 s0.heap) (hi : i = nI j) (hj : j < N) (hN : N < 2147483648) (hdg : decode cc pc = .ok (.iaload, 1)) (k : V D s0 own mn cc nL ret hh l R Z (pc + 1) lo (.int (f j) :: st) G cells slots) : V D s0 own mn cc nL ret hh l R Z pc lo (.int i :: .ref t :: st) G cells slots := by
  intro p e s m args below meth c H locs ls C9 hS hE hl
  subst hi
  exact va_ti C9.1 C9.2.1 (C9.2.2.2.2.2.2.2.2.2.1.t hT) hS (vp_in_nI hj hN) (by rw [nI_clamp (Nat.lt_trans hj hN)]) hdg (k p e s m args below meth c H locs ls C9 hS hE hl)
theorem V_tc {t N j : Nat} {f : Nat → Int32} {i : Int32} (hT : va_T .char t N (fun j => .int (f j)) (bA s0) s0 s0.heap) (hi : i = nI j) (hj : j < N) (hN : N < 2147483648) (hdg : decode cc pc = .ok (.caload, 1)) (k : V D s0 own mn cc nL ret hh l R Z (pc + 1) lo (.int (f j) :: st) G cells slots) : V D s0 own mn cc nL ret hh l R Z pc lo (.int i :: .ref t :: st) G cells slots := by
  intro p e s m args below meth c H locs ls C9 hS hE hl
  subst hi
  exact va_tc C9.1 C9.2.1 (C9.2.2.2.2.2.2.2.2.2.1.t hT) hS (vp_in_nI hj hN) (by rw [nI_clamp (Nat.lt_trans hj hN)]) hdg (k p e s m args below meth c H locs ls C9 hS hE hl)
theorem V_tb {t N j : Nat} {f : Nat → Int32} {i : Int32} (hT : va_T .byte t N (fun j => .int (f j)) (bA s0) s0 s0.heap) (hi : i = nI j) (hj : j < N) (hN : N < 2147483648) (hdg : decode cc pc = .ok (.baload, 1)) (k : V D s0 own mn cc nL ret hh l R Z (pc + 1) lo (.int (f j) :: st) G cells slots) : V D s0 own mn cc nL ret hh l R Z pc lo (.int i :: .ref t :: st) G cells slots := by
  intro p e s m args below meth c H locs ls C9 hS hE hl
  subst hi
  exact va_tb C9.1 C9.2.1 (C9.2.2.2.2.2.2.2.2.2.1.t hT) hS (vp_in_nI hj hN) (by rw [nI_clamp (Nat.lt_trans hj hN)]) hdg (k p e s m args below meth c H locs ls C9 hS hE hl)
theorem V_tlen {t N : Nat} {ty : FieldType} {f : Nat → Value} (hT : va_T ty t N f (bA s0) s0 s0.heap) (hdg : decode cc pc = .ok (.arraylength, 1)) (k : V D s0 own mn cc nL ret hh l R Z (pc + 1) lo (.int (nI N) :: st) G cells slots) : V D s0 own mn cc nL ret hh l R Z pc lo (.ref t :: st) G cells slots := fun p e s m args below meth c H locs ls C9 hS hE hl => va_tlen C9.1 C9.2.1 (C9.2.2.2.2.2.2.2.2.2.1.t hT) hS rfl hdg (k p e s m args below meth c H locs ls C9 hS hE hl)
def CSX (own : String) (index : Nat) (y : MethodName) (cc' : ByteArray) (nL' : Nat) (ret' : Option FieldType) (n : Nat) : Prop := GoodIn WT (va_wsS own index y (.code y cc' nL' ret' :: WT)) ∧ (y.cls ≠ "java/lang/invoke/MethodHandle" ∧ y.cls ≠ "java/lang/invoke/VarHandle" ∧ (parseMethodDescriptor y.desc).map (fun d => d.parameters.length) = some n) ∧ nL' ≤ 300
theorem V_callsX {index d d' mc' ms' n nL' : Nat} {y : MethodName} {cc' : ByteArray} {ret' : Option FieldType} {as : List Value} {Post : Option Value → GH → Prop} {PX : String → GH → Prop} {st0 : List Value} (hC : CSX own index y cc' nL' ret' n) (hdg : decode cc pc = .ok (.invokestatic index, 3)) (hM : Tri D s0 l y cc' nL' ret' d' mc' ms' as G Post PX) (hn : as.length = n) (hst : st0 = as.reverse ++ st) (hW : (st.map fun v => v.category).sum ≤ 8) (hR : 16 * (d + 1) ≤ R.frames ∧ 400 * (d + 1) ≤ R.locals) (hd : d' < d) (hf : cells + mc' ≤ R.cells ∧ slots + ms' ≤ R.slots)
    (kk : ∀ (rv : Option Value) (G' : GH), Post rv G' → V D s0 own mn cc nL ret hh l R Z (pc + 3) lo (rv.toList ++ st) G' (cells + mc') (slots + ms')) (kx : ∀ (E : String) (G' : GH), PX E G' → VX D s0 own mn cc nL ret hh l R Z pc lo st E G' (cells + mc') (slots + ms')) : V D s0 own mn cc nL ret hh l R Z pc lo st0 G cells slots := by
  intro p e s m args below meth c H locs ls C9 hS hE hl
  subst hst
  obtain ⟨hG, hy, hn3⟩ := hC
  exact V_run C9 hS hl (vx_runS (Ts := WT) ⟨C9.1, C9.2.1, C9.2.2.1, C9.2.2.2.2.1, C9.2.2.2.2.2.1⟩ hM (va_cwS n C9.2.2.2.2.2.1 hG rfl rfl rfl hy (rm_ok hR hd hn3)) (pre_S C9 hS hE) rfl hn hl.1 rfl (by simpa [JFrame.monitorRoom] using hW) hdg hf) kk kx
theorem pre_B {p : Program} {s : State} {m : MethodId} {args : Array Value} {meth : Method} {c : Code} {H : Heap} {locs : List Loc} {as : List Value} {b : Nat} {C : String} (C9 : Cx D s0 own mn cc nL ret hh p s m args meth c) (hS : va_S (bA s0) s.heap H locs) (hE : Emb D s0.heap.size s G H) (hb : va_O C b (bA s0) s0 s0.heap) : PreV s H C b (PcV D s0 (.ref b :: as) G) as := by
  obtain ⟨g1, g2⟩ := pre_S (as := .ref b :: as) C9 hS hE
  refine ⟨g1, ?_, g2⟩
  obtain ⟨cell, h1, h2, h3, -⟩ := (C9.2.2.2.2.2.2.2.2.2.1.o hb).kept hS.2.1
  exact ⟨cell, h1, h2, h3⟩
theorem V_callB {index d d' mc' ms' n b nL' : Nat} {y : MethodName} {cc' : ByteArray} {ret' : Option FieldType} {as : List Value} {Post : Option Value → GH → Prop} {PX : String → GH → Prop} {st0 : List Value} (hC : CV own index y cc' nL' ret' n) (hdg : decode cc pc = .ok (.invokevirtual index, 3)) (hM : Tri D s0 l y cc' nL' ret' d' mc' ms' (.ref b :: as) G Post PX) (hb : va_O y.cls b (bA s0) s0 s0.heap) (hn : as.length = n) (hst : st0 = as.reverse ++ .ref b :: st) (hW : (st.map fun v => v.category).sum ≤ 8) (hR : 16 * (d + 1) ≤ R.frames ∧ 400 * (d + 1) ≤ R.locals) (hd : d' < d) (hf : cells + mc' ≤ R.cells ∧ slots + ms' ≤ R.slots)
    (kk : ∀ (rv : Option Value) (G' : GH), Post rv G' → V D s0 own mn cc nL ret hh l R Z (pc + 3) lo (rv.toList ++ st) G' (cells + mc') (slots + ms')) (kx : ∀ (E : String) (G' : GH), PX E G' → VX D s0 own mn cc nL ret hh l R Z pc lo st E G' (cells + mc') (slots + ms')) : V D s0 own mn cc nL ret hh l R Z pc lo st0 G cells slots := by
  intro p e s m args below meth c H locs ls C9 hS hE hl
  subst hst
  obtain ⟨hG, hy, hn3⟩ := hC
  exact V_run C9 hS hl (vx_runV (Ts := WT) ⟨C9.1, C9.2.1, C9.2.2.1, C9.2.2.2.2.1, C9.2.2.2.2.2.1⟩ hM (cwV n C9.2.2.2.2.2.1 hG rfl rfl rfl ⟨rfl, hy⟩ (rm_ok hR hd hn3)) (pre_B C9 hS hE hb) rfl hn hl.1 rfl (by simpa [JFrame.monitorRoom] using hW) hdg hf) kk kx

theorem Cx0_0 {G1 : GH} {index d d' mc' ms' nL' : Nat} {y : MethodName} {cc' : ByteArray} {ret' : Option FieldType}  (hC : CSX own index y cc' nL' ret' 0) (hdg : decode cc pc = .ok (.invokestatic index, 3)) (hM : Tri D s0 l y cc' nL' ret' d' mc' ms' [] G (fun r G' => r = none ∧ G' = G1) noX) (hW : (st.map fun v => v.category).sum ≤ 8) (hR : 16 * (d + 1) ≤ R.frames ∧ 400 * (d + 1) ≤ R.locals) (hd : d' < d) (hf : cells + mc' ≤ R.cells ∧ slots + ms' ≤ R.slots) (kk : V D s0 own mn cc nL ret hh l R Z (pc + 3) lo st G1 (cells + mc') (slots + ms')) : V D s0 own mn cc nL ret hh l R Z pc lo (st) G cells slots := by
  refine V_callsX hC hdg hM rfl rfl hW hR hd hf (fun r G' h => ?_) (fun E G' h => h.elim)
  obtain ⟨rfl, rfl⟩ := h
  exact kk
theorem Cx1_0 {G1 : GH} {index d d' mc' ms' nL' : Nat} {y : MethodName} {cc' : ByteArray} {ret' : Option FieldType} {rv : Value} (hC : CSX own index y cc' nL' ret' 0) (hdg : decode cc pc = .ok (.invokestatic index, 3)) (hM : Tri D s0 l y cc' nL' ret' d' mc' ms' [] G (fun r G' => r = some rv ∧ G' = G1) noX) (hW : (st.map fun v => v.category).sum ≤ 8) (hR : 16 * (d + 1) ≤ R.frames ∧ 400 * (d + 1) ≤ R.locals) (hd : d' < d) (hf : cells + mc' ≤ R.cells ∧ slots + ms' ≤ R.slots) (kk : V D s0 own mn cc nL ret hh l R Z (pc + 3) lo (rv :: st) G1 (cells + mc') (slots + ms')) : V D s0 own mn cc nL ret hh l R Z pc lo (st) G cells slots := by
  refine V_callsX hC hdg hM rfl rfl hW hR hd hf (fun r G' h => ?_) (fun E G' h => h.elim)
  obtain ⟨rfl, rfl⟩ := h
  exact kk
theorem Cx0_1 {G1 : GH} {index d d' mc' ms' nL' : Nat} {y : MethodName} {cc' : ByteArray} {ret' : Option FieldType} {x1 : Value} (hC : CSX own index y cc' nL' ret' 1) (hdg : decode cc pc = .ok (.invokestatic index, 3)) (hM : Tri D s0 l y cc' nL' ret' d' mc' ms' [x1] G (fun r G' => r = none ∧ G' = G1) noX) (hW : (st.map fun v => v.category).sum ≤ 8) (hR : 16 * (d + 1) ≤ R.frames ∧ 400 * (d + 1) ≤ R.locals) (hd : d' < d) (hf : cells + mc' ≤ R.cells ∧ slots + ms' ≤ R.slots) (kk : V D s0 own mn cc nL ret hh l R Z (pc + 3) lo st G1 (cells + mc') (slots + ms')) : V D s0 own mn cc nL ret hh l R Z pc lo (x1 :: st) G cells slots := by
  refine V_callsX hC hdg hM rfl rfl hW hR hd hf (fun r G' h => ?_) (fun E G' h => h.elim)
  obtain ⟨rfl, rfl⟩ := h
  exact kk
theorem Cx1_1 {G1 : GH} {index d d' mc' ms' nL' : Nat} {y : MethodName} {cc' : ByteArray} {ret' : Option FieldType} {x1 rv : Value} (hC : CSX own index y cc' nL' ret' 1) (hdg : decode cc pc = .ok (.invokestatic index, 3)) (hM : Tri D s0 l y cc' nL' ret' d' mc' ms' [x1] G (fun r G' => r = some rv ∧ G' = G1) noX) (hW : (st.map fun v => v.category).sum ≤ 8) (hR : 16 * (d + 1) ≤ R.frames ∧ 400 * (d + 1) ≤ R.locals) (hd : d' < d) (hf : cells + mc' ≤ R.cells ∧ slots + ms' ≤ R.slots) (kk : V D s0 own mn cc nL ret hh l R Z (pc + 3) lo (rv :: st) G1 (cells + mc') (slots + ms')) : V D s0 own mn cc nL ret hh l R Z pc lo (x1 :: st) G cells slots := by
  refine V_callsX hC hdg hM rfl rfl hW hR hd hf (fun r G' h => ?_) (fun E G' h => h.elim)
  obtain ⟨rfl, rfl⟩ := h
  exact kk
theorem Cx0_2 {G1 : GH} {index d d' mc' ms' nL' : Nat} {y : MethodName} {cc' : ByteArray} {ret' : Option FieldType} {x1 x2 : Value} (hC : CSX own index y cc' nL' ret' 2) (hdg : decode cc pc = .ok (.invokestatic index, 3)) (hM : Tri D s0 l y cc' nL' ret' d' mc' ms' [x1, x2] G (fun r G' => r = none ∧ G' = G1) noX) (hW : (st.map fun v => v.category).sum ≤ 8) (hR : 16 * (d + 1) ≤ R.frames ∧ 400 * (d + 1) ≤ R.locals) (hd : d' < d) (hf : cells + mc' ≤ R.cells ∧ slots + ms' ≤ R.slots) (kk : V D s0 own mn cc nL ret hh l R Z (pc + 3) lo st G1 (cells + mc') (slots + ms')) : V D s0 own mn cc nL ret hh l R Z pc lo (x2 :: x1 :: st) G cells slots := by
  refine V_callsX hC hdg hM rfl rfl hW hR hd hf (fun r G' h => ?_) (fun E G' h => h.elim)
  obtain ⟨rfl, rfl⟩ := h
  exact kk
theorem Cx1_2 {G1 : GH} {index d d' mc' ms' nL' : Nat} {y : MethodName} {cc' : ByteArray} {ret' : Option FieldType} {x1 x2 rv : Value} (hC : CSX own index y cc' nL' ret' 2) (hdg : decode cc pc = .ok (.invokestatic index, 3)) (hM : Tri D s0 l y cc' nL' ret' d' mc' ms' [x1, x2] G (fun r G' => r = some rv ∧ G' = G1) noX) (hW : (st.map fun v => v.category).sum ≤ 8) (hR : 16 * (d + 1) ≤ R.frames ∧ 400 * (d + 1) ≤ R.locals) (hd : d' < d) (hf : cells + mc' ≤ R.cells ∧ slots + ms' ≤ R.slots) (kk : V D s0 own mn cc nL ret hh l R Z (pc + 3) lo (rv :: st) G1 (cells + mc') (slots + ms')) : V D s0 own mn cc nL ret hh l R Z pc lo (x2 :: x1 :: st) G cells slots := by
  refine V_callsX hC hdg hM rfl rfl hW hR hd hf (fun r G' h => ?_) (fun E G' h => h.elim)
  obtain ⟨rfl, rfl⟩ := h
  exact kk
theorem Cx0_3 {G1 : GH} {index d d' mc' ms' nL' : Nat} {y : MethodName} {cc' : ByteArray} {ret' : Option FieldType} {x1 x2 x3 : Value} (hC : CSX own index y cc' nL' ret' 3) (hdg : decode cc pc = .ok (.invokestatic index, 3)) (hM : Tri D s0 l y cc' nL' ret' d' mc' ms' [x1, x2, x3] G (fun r G' => r = none ∧ G' = G1) noX) (hW : (st.map fun v => v.category).sum ≤ 8) (hR : 16 * (d + 1) ≤ R.frames ∧ 400 * (d + 1) ≤ R.locals) (hd : d' < d) (hf : cells + mc' ≤ R.cells ∧ slots + ms' ≤ R.slots) (kk : V D s0 own mn cc nL ret hh l R Z (pc + 3) lo st G1 (cells + mc') (slots + ms')) : V D s0 own mn cc nL ret hh l R Z pc lo (x3 :: x2 :: x1 :: st) G cells slots := by
  refine V_callsX hC hdg hM rfl rfl hW hR hd hf (fun r G' h => ?_) (fun E G' h => h.elim)
  obtain ⟨rfl, rfl⟩ := h
  exact kk
theorem Cx1_3 {G1 : GH} {index d d' mc' ms' nL' : Nat} {y : MethodName} {cc' : ByteArray} {ret' : Option FieldType} {x1 x2 x3 rv : Value} (hC : CSX own index y cc' nL' ret' 3) (hdg : decode cc pc = .ok (.invokestatic index, 3)) (hM : Tri D s0 l y cc' nL' ret' d' mc' ms' [x1, x2, x3] G (fun r G' => r = some rv ∧ G' = G1) noX) (hW : (st.map fun v => v.category).sum ≤ 8) (hR : 16 * (d + 1) ≤ R.frames ∧ 400 * (d + 1) ≤ R.locals) (hd : d' < d) (hf : cells + mc' ≤ R.cells ∧ slots + ms' ≤ R.slots) (kk : V D s0 own mn cc nL ret hh l R Z (pc + 3) lo (rv :: st) G1 (cells + mc') (slots + ms')) : V D s0 own mn cc nL ret hh l R Z pc lo (x3 :: x2 :: x1 :: st) G cells slots := by
  refine V_callsX hC hdg hM rfl rfl hW hR hd hf (fun r G' h => ?_) (fun E G' h => h.elim)
  obtain ⟨rfl, rfl⟩ := h
  exact kk
theorem Cx0_4 {G1 : GH} {index d d' mc' ms' nL' : Nat} {y : MethodName} {cc' : ByteArray} {ret' : Option FieldType} {x1 x2 x3 x4 : Value} (hC : CSX own index y cc' nL' ret' 4) (hdg : decode cc pc = .ok (.invokestatic index, 3)) (hM : Tri D s0 l y cc' nL' ret' d' mc' ms' [x1, x2, x3, x4] G (fun r G' => r = none ∧ G' = G1) noX) (hW : (st.map fun v => v.category).sum ≤ 8) (hR : 16 * (d + 1) ≤ R.frames ∧ 400 * (d + 1) ≤ R.locals) (hd : d' < d) (hf : cells + mc' ≤ R.cells ∧ slots + ms' ≤ R.slots) (kk : V D s0 own mn cc nL ret hh l R Z (pc + 3) lo st G1 (cells + mc') (slots + ms')) : V D s0 own mn cc nL ret hh l R Z pc lo (x4 :: x3 :: x2 :: x1 :: st) G cells slots := by
  refine V_callsX hC hdg hM rfl rfl hW hR hd hf (fun r G' h => ?_) (fun E G' h => h.elim)
  obtain ⟨rfl, rfl⟩ := h
  exact kk
theorem Cx1_4 {G1 : GH} {index d d' mc' ms' nL' : Nat} {y : MethodName} {cc' : ByteArray} {ret' : Option FieldType} {x1 x2 x3 x4 rv : Value} (hC : CSX own index y cc' nL' ret' 4) (hdg : decode cc pc = .ok (.invokestatic index, 3)) (hM : Tri D s0 l y cc' nL' ret' d' mc' ms' [x1, x2, x3, x4] G (fun r G' => r = some rv ∧ G' = G1) noX) (hW : (st.map fun v => v.category).sum ≤ 8) (hR : 16 * (d + 1) ≤ R.frames ∧ 400 * (d + 1) ≤ R.locals) (hd : d' < d) (hf : cells + mc' ≤ R.cells ∧ slots + ms' ≤ R.slots) (kk : V D s0 own mn cc nL ret hh l R Z (pc + 3) lo (rv :: st) G1 (cells + mc') (slots + ms')) : V D s0 own mn cc nL ret hh l R Z pc lo (x4 :: x3 :: x2 :: x1 :: st) G cells slots := by
  refine V_callsX hC hdg hM rfl rfl hW hR hd hf (fun r G' h => ?_) (fun E G' h => h.elim)
  obtain ⟨rfl, rfl⟩ := h
  exact kk
theorem Cb0_0 {G1 : GH} {index d d' mc' ms' b nL' : Nat} {y : MethodName} {cc' : ByteArray} {ret' : Option FieldType}  (hC : CV own index y cc' nL' ret' 0) (hdg : decode cc pc = .ok (.invokevirtual index, 3)) (hM : Tri D s0 l y cc' nL' ret' d' mc' ms' (.ref b :: []) G (fun r G' => r = none ∧ G' = G1) noX) (hb : va_O y.cls b (bA s0) s0 s0.heap) (hW : (st.map fun v => v.category).sum ≤ 8) (hR : 16 * (d + 1) ≤ R.frames ∧ 400 * (d + 1) ≤ R.locals) (hd : d' < d) (hf : cells + mc' ≤ R.cells ∧ slots + ms' ≤ R.slots) (kk : V D s0 own mn cc nL ret hh l R Z (pc + 3) lo st G1 (cells + mc') (slots + ms')) : V D s0 own mn cc nL ret hh l R Z pc lo (.ref b :: st) G cells slots := by
  refine V_callB hC hdg hM hb rfl rfl hW hR hd hf (fun r G' h => ?_) (fun E G' h => h.elim)
  obtain ⟨rfl, rfl⟩ := h
  exact kk
theorem Cb1_0 {G1 : GH} {index d d' mc' ms' b nL' : Nat} {y : MethodName} {cc' : ByteArray} {ret' : Option FieldType} {rv : Value} (hC : CV own index y cc' nL' ret' 0) (hdg : decode cc pc = .ok (.invokevirtual index, 3)) (hM : Tri D s0 l y cc' nL' ret' d' mc' ms' (.ref b :: []) G (fun r G' => r = some rv ∧ G' = G1) noX) (hb : va_O y.cls b (bA s0) s0 s0.heap) (hW : (st.map fun v => v.category).sum ≤ 8) (hR : 16 * (d + 1) ≤ R.frames ∧ 400 * (d + 1) ≤ R.locals) (hd : d' < d) (hf : cells + mc' ≤ R.cells ∧ slots + ms' ≤ R.slots) (kk : V D s0 own mn cc nL ret hh l R Z (pc + 3) lo (rv :: st) G1 (cells + mc') (slots + ms')) : V D s0 own mn cc nL ret hh l R Z pc lo (.ref b :: st) G cells slots := by
  refine V_callB hC hdg hM hb rfl rfl hW hR hd hf (fun r G' h => ?_) (fun E G' h => h.elim)
  obtain ⟨rfl, rfl⟩ := h
  exact kk
theorem Cb0_1 {G1 : GH} {index d d' mc' ms' b nL' : Nat} {y : MethodName} {cc' : ByteArray} {ret' : Option FieldType} {x1 : Value} (hC : CV own index y cc' nL' ret' 1) (hdg : decode cc pc = .ok (.invokevirtual index, 3)) (hM : Tri D s0 l y cc' nL' ret' d' mc' ms' (.ref b :: [x1]) G (fun r G' => r = none ∧ G' = G1) noX) (hb : va_O y.cls b (bA s0) s0 s0.heap) (hW : (st.map fun v => v.category).sum ≤ 8) (hR : 16 * (d + 1) ≤ R.frames ∧ 400 * (d + 1) ≤ R.locals) (hd : d' < d) (hf : cells + mc' ≤ R.cells ∧ slots + ms' ≤ R.slots) (kk : V D s0 own mn cc nL ret hh l R Z (pc + 3) lo st G1 (cells + mc') (slots + ms')) : V D s0 own mn cc nL ret hh l R Z pc lo (x1 :: .ref b :: st) G cells slots := by
  refine V_callB hC hdg hM hb rfl rfl hW hR hd hf (fun r G' h => ?_) (fun E G' h => h.elim)
  obtain ⟨rfl, rfl⟩ := h
  exact kk
theorem Cb1_1 {G1 : GH} {index d d' mc' ms' b nL' : Nat} {y : MethodName} {cc' : ByteArray} {ret' : Option FieldType} {x1 rv : Value} (hC : CV own index y cc' nL' ret' 1) (hdg : decode cc pc = .ok (.invokevirtual index, 3)) (hM : Tri D s0 l y cc' nL' ret' d' mc' ms' (.ref b :: [x1]) G (fun r G' => r = some rv ∧ G' = G1) noX) (hb : va_O y.cls b (bA s0) s0 s0.heap) (hW : (st.map fun v => v.category).sum ≤ 8) (hR : 16 * (d + 1) ≤ R.frames ∧ 400 * (d + 1) ≤ R.locals) (hd : d' < d) (hf : cells + mc' ≤ R.cells ∧ slots + ms' ≤ R.slots) (kk : V D s0 own mn cc nL ret hh l R Z (pc + 3) lo (rv :: st) G1 (cells + mc') (slots + ms')) : V D s0 own mn cc nL ret hh l R Z pc lo (x1 :: .ref b :: st) G cells slots := by
  refine V_callB hC hdg hM hb rfl rfl hW hR hd hf (fun r G' h => ?_) (fun E G' h => h.elim)
  obtain ⟨rfl, rfl⟩ := h
  exact kk
theorem Cb0_2 {G1 : GH} {index d d' mc' ms' b nL' : Nat} {y : MethodName} {cc' : ByteArray} {ret' : Option FieldType} {x1 x2 : Value} (hC : CV own index y cc' nL' ret' 2) (hdg : decode cc pc = .ok (.invokevirtual index, 3)) (hM : Tri D s0 l y cc' nL' ret' d' mc' ms' (.ref b :: [x1, x2]) G (fun r G' => r = none ∧ G' = G1) noX) (hb : va_O y.cls b (bA s0) s0 s0.heap) (hW : (st.map fun v => v.category).sum ≤ 8) (hR : 16 * (d + 1) ≤ R.frames ∧ 400 * (d + 1) ≤ R.locals) (hd : d' < d) (hf : cells + mc' ≤ R.cells ∧ slots + ms' ≤ R.slots) (kk : V D s0 own mn cc nL ret hh l R Z (pc + 3) lo st G1 (cells + mc') (slots + ms')) : V D s0 own mn cc nL ret hh l R Z pc lo (x2 :: x1 :: .ref b :: st) G cells slots := by
  refine V_callB hC hdg hM hb rfl rfl hW hR hd hf (fun r G' h => ?_) (fun E G' h => h.elim)
  obtain ⟨rfl, rfl⟩ := h
  exact kk
theorem Cb1_2 {G1 : GH} {index d d' mc' ms' b nL' : Nat} {y : MethodName} {cc' : ByteArray} {ret' : Option FieldType} {x1 x2 rv : Value} (hC : CV own index y cc' nL' ret' 2) (hdg : decode cc pc = .ok (.invokevirtual index, 3)) (hM : Tri D s0 l y cc' nL' ret' d' mc' ms' (.ref b :: [x1, x2]) G (fun r G' => r = some rv ∧ G' = G1) noX) (hb : va_O y.cls b (bA s0) s0 s0.heap) (hW : (st.map fun v => v.category).sum ≤ 8) (hR : 16 * (d + 1) ≤ R.frames ∧ 400 * (d + 1) ≤ R.locals) (hd : d' < d) (hf : cells + mc' ≤ R.cells ∧ slots + ms' ≤ R.slots) (kk : V D s0 own mn cc nL ret hh l R Z (pc + 3) lo (rv :: st) G1 (cells + mc') (slots + ms')) : V D s0 own mn cc nL ret hh l R Z pc lo (x2 :: x1 :: .ref b :: st) G cells slots := by
  refine V_callB hC hdg hM hb rfl rfl hW hR hd hf (fun r G' h => ?_) (fun E G' h => h.elim)
  obtain ⟨rfl, rfl⟩ := h
  exact kk
end VB
theorem cv_J0_633 : CV RJ0 633 yJ0_indexOf_7cf53 cJ0_indexOf_7cf53 3 ((some .int)) 2 := ⟨wt_V (wt_mem 940 (by decide +kernel) (by decide +kernel)) (wt_mem 941 (by decide +kernel) (by decide +kernel)) (wt_mem 942 (by decide +kernel) (by decide +kernel)) (wt_mem 56 (by decide +kernel) (by decide +kernel)) (wt_mem 943 (by decide +kernel) (by decide +kernel)), ⟨by decide +kernel, by decide +kernel, by decide +kernel⟩, by decide⟩
theorem cv_J0_492 : CV RJ0 492 yJ0_isLatin1_aae02 cJ0_isLatin1_aae02 1 ((some .boolean)) 0 := ⟨wt_V (wt_mem 944 (by decide +kernel) (by decide +kernel)) (wt_mem 945 (by decide +kernel) (by decide +kernel)) (wt_mem 946 (by decide +kernel) (by decide +kernel)) (wt_mem 56 (by decide +kernel) (by decide +kernel)) (wt_mem 947 (by decide +kernel) (by decide +kernel)), ⟨by decide +kernel, by decide +kernel, by decide +kernel⟩, by decide⟩
theorem cv_J0_505 : CV RJ0 505 yJ0_length_8abf5 cJ0_length_8abf5 1 ((some .int)) 0 := ⟨wt_V (wt_mem 949 (by decide +kernel) (by decide +kernel)) (wt_mem 950 (by decide +kernel) (by decide +kernel)) (wt_mem 951 (by decide +kernel) (by decide +kernel)) (wt_mem 56 (by decide +kernel) (by decide +kernel)) (wt_mem 952 (by decide +kernel) (by decide +kernel)), ⟨by decide +kernel, by decide +kernel, by decide +kernel⟩, by decide⟩
theorem csx_J0_637 : CSX RJ0 637 yJ1_indexOf_4cfef cJ1_indexOf_4cfef 4 ((some .int)) 4 := ⟨wt_SW (wt_mem 957 (by decide +kernel) (by decide +kernel)) (wt_mem 958 (by decide +kernel) (by decide +kernel)) (wt_mem 69 (by decide +kernel) (by decide +kernel)) (wt_mem 959 (by decide +kernel) (by decide +kernel)), ⟨by decide +kernel, by decide +kernel, by decide +kernel⟩, by decide⟩
theorem cv_J0_335 : CV RJ0 335 yJ0_coder_7d493 cJ0_coder_7d493 1 ((some .byte)) 0 := ⟨wt_V (wt_mem 953 (by decide +kernel) (by decide +kernel)) (wt_mem 954 (by decide +kernel) (by decide +kernel)) (wt_mem 955 (by decide +kernel) (by decide +kernel)) (wt_mem 56 (by decide +kernel) (by decide +kernel)) (wt_mem 956 (by decide +kernel) (by decide +kernel)), ⟨by decide +kernel, by decide +kernel, by decide +kernel⟩, by decide⟩
theorem csx_J1_88 : CSX RJ1 88 yJ1_canEncode_9a6ad cJ1_canEncode_9a6ad 1 ((some .boolean)) 1 := ⟨wt_SW (wt_mem 960 (by decide +kernel) (by decide +kernel)) (wt_mem 961 (by decide +kernel) (by decide +kernel)) (wt_mem 69 (by decide +kernel) (by decide +kernel)) (wt_mem 962 (by decide +kernel) (by decide +kernel)), ⟨by decide +kernel, by decide +kernel, by decide +kernel⟩, by decide⟩
theorem csx_J1_95 : CSX RJ1 95 yJ1_indexOfChar_4cfef cJ1_indexOfChar_4cfef 6 ((some .int)) 4 := ⟨wt_SW (wt_mem 965 (by decide +kernel) (by decide +kernel)) (wt_mem 966 (by decide +kernel) (by decide +kernel)) (wt_mem 69 (by decide +kernel) (by decide +kernel)) (wt_mem 967 (by decide +kernel) (by decide +kernel)), ⟨by decide +kernel, by decide +kernel, by decide +kernel⟩, by decide⟩
theorem csx_J0_495 : CSX RJ0 495 yJ1_charAt_3b067 cJ1_charAt_3b067 2 ((some .char)) 2 := ⟨wt_SW (wt_mem 1780 (by decide +kernel) (by decide +kernel)) (wt_mem 1781 (by decide +kernel) (by decide +kernel)) (wt_mem 69 (by decide +kernel) (by decide +kernel)) (wt_mem 1782 (by decide +kernel) (by decide +kernel)), ⟨by decide +kernel, by decide +kernel, by decide +kernel⟩, by decide⟩
theorem csx_J1_9 : CSX RJ1 9 yJ0_checkIndex_df160 cJ0_checkIndex_df160 2 (none) 2 := ⟨wt_SW (wt_mem 1783 (by decide +kernel) (by decide +kernel)) (wt_mem 1313 (by decide +kernel) (by decide +kernel)) (wt_mem 56 (by decide +kernel) (by decide +kernel)) (wt_mem 1314 (by decide +kernel) (by decide +kernel)), ⟨by decide +kernel, by decide +kernel, by decide +kernel⟩, by decide⟩
theorem csx_J0_1059 : CSX RJ0 1059 yJ3_checkIndex_8e157 cJ3_checkIndex_8e157 3 ((some .int)) 3 := ⟨wt_SW (wt_mem 1315 (by decide +kernel) (by decide +kernel)) (wt_mem 1316 (by decide +kernel) (by decide +kernel)) (wt_mem 70 (by decide +kernel) (by decide +kernel)) (wt_mem 1317 (by decide +kernel) (by decide +kernel)), ⟨by decide +kernel, by decide +kernel, by decide +kernel⟩, by decide⟩
theorem cm_J1_92 : CM RJ1 92 Lib.Math.max.name Lib.Math.max.code := ⟨(wt_mem 963 (by decide +kernel) (by decide +kernel)), (wt_mem 415 (by decide +kernel) (by decide +kernel)), (wt_mem 63 (by decide +kernel) (by decide +kernel)), (wt_mem 416 (by decide +kernel) (by decide +kernel))⟩
theorem cm_J1_38 : CM RJ1 38 Lib.Math.min.name Lib.Math.min.code := ⟨(wt_mem 964 (by decide +kernel) (by decide +kernel)), (wt_mem 542 (by decide +kernel) (by decide +kernel)), (wt_mem 63 (by decide +kernel) (by decide +kernel)), (wt_mem 543 (by decide +kernel) (by decide +kernel))⟩
theorem fb_J0_9 : Cond.fieldLink RJ0 9 "java/lang/String" "value" "[B" ∈ WT := (wt_mem 1254 (by decide +kernel) (by decide +kernel))
theorem fb_J0_15 : Cond.fieldLink RJ0 15 "java/lang/String" "coder" "B" ∈ WT := (wt_mem 1255 (by decide +kernel) (by decide +kernel))
theorem fb_J0_38 : Cond.fieldLink RJ0 38 "java/lang/String" "COMPACT_STRINGS" "Z" ∈ WT := (wt_mem 948 (by decide +kernel) (by decide +kernel))
theorem fb_J0_1053 : Cond.fieldLink RJ0 1053 "jdk/internal/util/Preconditions" "SIOOBE_FORMATTER" "Ljava/util/function/BiFunction;" ∈ WT := (wt_mem 986 (by decide +kernel) (by decide +kernel))
theorem S0.cs {s0 : State} (h : S0 s0) : va_Z "java/lang/String" "COMPACT_STRINGS" "Z" (.int 1) (bA s0) s0 s0.heap := by
  obtain ⟨b, g1, g2⟩ := h.row
  exact va_Zof (g1 _ (List.mem_of_getElem? (i := 327) (by decide +kernel))) (g1 _ (List.mem_of_getElem? (i := 56) (by decide +kernel))) (va_eqt (g2 _ (fl_mem 4 (by decide +kernel)))) bA_out
theorem S0.sf {s0 : State} (h : S0 s0) : ∃ v : Value, va_Z "jdk/internal/util/Preconditions" "SIOOBE_FORMATTER" "Ljava/util/function/BiFunction;" v (bA s0) s0 s0.heap ∧ (v = .null ∨ ∃ t, v = .ref t) := by
  obtain ⟨b, g1, g2⟩ := h.row
  rcases va_Zqof (C := "jdk/internal/util/Preconditions") (n := "SIOOBE_FORMATTER") (d := "Ljava/util/function/BiFunction;") (A := bA s0) (g1 _ (List.mem_of_getElem? (i := 987) (by decide +kernel))) (g1 _ (List.mem_of_getElem? (i := 70) (by decide +kernel))) (g2 _ (fl_mem 7 (by decide +kernel))) bA_out with q | ⟨t, q⟩
  · exact ⟨_, q, Or.inl rfl⟩
  · exact ⟨_, q, Or.inr ⟨_, rfl⟩⟩
theorem tr_fr {D : va_G} {s0 : State} {l : Launch} {y : MethodName} {cc : ByteArray} {nL : Nat} {ret : Option FieldType} {d mc ms : Nat} {as : List Value} {G : GH} {Post : Option Value → GH → Prop} {PX : String → GH → Prop} (k : S0 s0 → Tri D s0 l y cc nL ret d mc ms as G Post PX) : Tri D s0 l y cc nL ret d mc ms as G Post PX := fun p e ha hc hk s m args below hf happ hP hK => k hP.2.1.1 p e ha hc hk s m args below hf happ hP hK

theorem dJ0_isLatin1_aae02_0 : decode cJ0_isLatin1_aae02 0 = .ok (.getstatic 38, 3) := by decide +kernel
theorem dJ0_isLatin1_aae02_3 : decode cJ0_isLatin1_aae02 3 = .ok (.ifCond .eq 14, 3) := by decide +kernel
theorem dJ0_isLatin1_aae02_6 : decode cJ0_isLatin1_aae02 6 = .ok (.aload_n 0, 1) := by decide +kernel
theorem dJ0_isLatin1_aae02_7 : decode cJ0_isLatin1_aae02 7 = .ok (.getfield 15, 3) := by decide +kernel
theorem dJ0_isLatin1_aae02_10 : decode cJ0_isLatin1_aae02 10 = .ok (.ifCond .ne 7, 3) := by decide +kernel
theorem dJ0_isLatin1_aae02_13 : decode cJ0_isLatin1_aae02 13 = .ok (.iconst 1, 1) := by decide +kernel
theorem dJ0_isLatin1_aae02_14 : decode cJ0_isLatin1_aae02 14 = .ok (.goto 4, 3) := by decide +kernel
theorem dJ0_isLatin1_aae02_17 : decode cJ0_isLatin1_aae02 17 = .ok (.iconst 0, 1) := by decide +kernel
theorem dJ0_isLatin1_aae02_18 : decode cJ0_isLatin1_aae02 18 = .ok (.ireturn, 1) := by decide +kernel
theorem dJ0_coder_7d493_0 : decode cJ0_coder_7d493 0 = .ok (.getstatic 38, 3) := by decide +kernel
theorem dJ0_coder_7d493_3 : decode cJ0_coder_7d493 3 = .ok (.ifCond .eq 10, 3) := by decide +kernel
theorem dJ0_coder_7d493_6 : decode cJ0_coder_7d493 6 = .ok (.aload_n 0, 1) := by decide +kernel
theorem dJ0_coder_7d493_7 : decode cJ0_coder_7d493 7 = .ok (.getfield 15, 3) := by decide +kernel
theorem dJ0_coder_7d493_10 : decode cJ0_coder_7d493 10 = .ok (.goto 4, 3) := by decide +kernel
theorem dJ0_coder_7d493_13 : decode cJ0_coder_7d493 13 = .ok (.iconst 1, 1) := by decide +kernel
theorem dJ0_coder_7d493_14 : decode cJ0_coder_7d493 14 = .ok (.ireturn, 1) := by decide +kernel
theorem dJ0_length_8abf5_0 : decode cJ0_length_8abf5 0 = .ok (.aload_n 0, 1) := by decide +kernel
theorem dJ0_length_8abf5_1 : decode cJ0_length_8abf5 1 = .ok (.getfield 9, 3) := by decide +kernel
theorem dJ0_length_8abf5_4 : decode cJ0_length_8abf5 4 = .ok (.arraylength, 1) := by decide +kernel
theorem dJ0_length_8abf5_5 : decode cJ0_length_8abf5 5 = .ok (.aload_n 0, 1) := by decide +kernel
theorem dJ0_length_8abf5_6 : decode cJ0_length_8abf5 6 = .ok (.invokevirtual 335, 3) := by decide +kernel
theorem dJ0_length_8abf5_9 : decode cJ0_length_8abf5 9 = .ok (.ishr, 1) := by decide +kernel
theorem dJ0_length_8abf5_10 : decode cJ0_length_8abf5 10 = .ok (.ireturn, 1) := by decide +kernel
theorem dJ1_canEncode_9a6ad_0 : decode cJ1_canEncode_9a6ad 0 = .ok (.iload_n 0, 1) := by decide +kernel
theorem dJ1_canEncode_9a6ad_1 : decode cJ1_canEncode_9a6ad 1 = .ok (.ifCond .lt 14, 3) := by decide +kernel
theorem dJ1_canEncode_9a6ad_4 : decode cJ1_canEncode_9a6ad 4 = .ok (.iload_n 0, 1) := by decide +kernel
theorem dJ1_canEncode_9a6ad_5 : decode cJ1_canEncode_9a6ad 5 = .ok (.sipush 255, 3) := by decide +kernel
theorem dJ1_canEncode_9a6ad_8 : decode cJ1_canEncode_9a6ad 8 = .ok (.if_icmp .gt 7, 3) := by decide +kernel
theorem dJ1_canEncode_9a6ad_11 : decode cJ1_canEncode_9a6ad 11 = .ok (.iconst 1, 1) := by decide +kernel
theorem dJ1_canEncode_9a6ad_12 : decode cJ1_canEncode_9a6ad 12 = .ok (.goto 4, 3) := by decide +kernel
theorem dJ1_canEncode_9a6ad_15 : decode cJ1_canEncode_9a6ad 15 = .ok (.iconst 0, 1) := by decide +kernel
theorem dJ1_canEncode_9a6ad_16 : decode cJ1_canEncode_9a6ad 16 = .ok (.ireturn, 1) := by decide +kernel
theorem dJ1_indexOfChar_4cfef_0 : decode cJ1_indexOfChar_4cfef 0 = .ok (.iload_n 1, 1) := by decide +kernel
theorem dJ1_indexOfChar_4cfef_1 : decode cJ1_indexOfChar_4cfef 1 = .ok (.i2b, 1) := by decide +kernel
theorem dJ1_indexOfChar_4cfef_2 : decode cJ1_indexOfChar_4cfef 2 = .ok (.istore 4, 2) := by decide +kernel
theorem dJ1_indexOfChar_4cfef_4 : decode cJ1_indexOfChar_4cfef 4 = .ok (.iload_n 2, 1) := by decide +kernel
theorem dJ1_indexOfChar_4cfef_5 : decode cJ1_indexOfChar_4cfef 5 = .ok (.istore 5, 2) := by decide +kernel
theorem dJ1_indexOfChar_4cfef_7 : decode cJ1_indexOfChar_4cfef 7 = .ok (.iload 5, 2) := by decide +kernel
theorem dJ1_indexOfChar_4cfef_9 : decode cJ1_indexOfChar_4cfef 9 = .ok (.iload_n 3, 1) := by decide +kernel
theorem dJ1_indexOfChar_4cfef_10 : decode cJ1_indexOfChar_4cfef 10 = .ok (.if_icmp .ge 21, 3) := by decide +kernel
theorem dJ1_indexOfChar_4cfef_13 : decode cJ1_indexOfChar_4cfef 13 = .ok (.aload_n 0, 1) := by decide +kernel
theorem dJ1_indexOfChar_4cfef_14 : decode cJ1_indexOfChar_4cfef 14 = .ok (.iload 5, 2) := by decide +kernel
theorem dJ1_indexOfChar_4cfef_16 : decode cJ1_indexOfChar_4cfef 16 = .ok (.baload, 1) := by decide +kernel
theorem dJ1_indexOfChar_4cfef_17 : decode cJ1_indexOfChar_4cfef 17 = .ok (.iload 4, 2) := by decide +kernel
theorem dJ1_indexOfChar_4cfef_19 : decode cJ1_indexOfChar_4cfef 19 = .ok (.if_icmp .ne 6, 3) := by decide +kernel
theorem dJ1_indexOfChar_4cfef_22 : decode cJ1_indexOfChar_4cfef 22 = .ok (.iload 5, 2) := by decide +kernel
theorem dJ1_indexOfChar_4cfef_24 : decode cJ1_indexOfChar_4cfef 24 = .ok (.ireturn, 1) := by decide +kernel
theorem dJ1_indexOfChar_4cfef_25 : decode cJ1_indexOfChar_4cfef 25 = .ok (.iinc 5 1, 3) := by decide +kernel
theorem dJ1_indexOfChar_4cfef_28 : decode cJ1_indexOfChar_4cfef 28 = .ok (.goto (-21), 3) := by decide +kernel
theorem dJ1_indexOfChar_4cfef_31 : decode cJ1_indexOfChar_4cfef 31 = .ok (.iconst (-1), 1) := by decide +kernel
theorem dJ1_indexOfChar_4cfef_32 : decode cJ1_indexOfChar_4cfef 32 = .ok (.ireturn, 1) := by decide +kernel
theorem dJ1_indexOf_4cfef_0 : decode cJ1_indexOf_4cfef 0 = .ok (.iload_n 1, 1) := by decide +kernel
theorem dJ1_indexOf_4cfef_1 : decode cJ1_indexOf_4cfef 1 = .ok (.invokestatic 88, 3) := by decide +kernel
theorem dJ1_indexOf_4cfef_4 : decode cJ1_indexOf_4cfef 4 = .ok (.ifCond .ne 5, 3) := by decide +kernel
theorem dJ1_indexOf_4cfef_7 : decode cJ1_indexOf_4cfef 7 = .ok (.iconst (-1), 1) := by decide +kernel
theorem dJ1_indexOf_4cfef_8 : decode cJ1_indexOf_4cfef 8 = .ok (.ireturn, 1) := by decide +kernel
theorem dJ1_indexOf_4cfef_9 : decode cJ1_indexOf_4cfef 9 = .ok (.iload_n 2, 1) := by decide +kernel
theorem dJ1_indexOf_4cfef_10 : decode cJ1_indexOf_4cfef 10 = .ok (.iconst 0, 1) := by decide +kernel
theorem dJ1_indexOf_4cfef_11 : decode cJ1_indexOf_4cfef 11 = .ok (.invokestatic 92, 3) := by decide +kernel
theorem dJ1_indexOf_4cfef_14 : decode cJ1_indexOf_4cfef 14 = .ok (.istore_n 2, 1) := by decide +kernel
theorem dJ1_indexOf_4cfef_15 : decode cJ1_indexOf_4cfef 15 = .ok (.iload_n 3, 1) := by decide +kernel
theorem dJ1_indexOf_4cfef_16 : decode cJ1_indexOf_4cfef 16 = .ok (.aload_n 0, 1) := by decide +kernel
theorem dJ1_indexOf_4cfef_17 : decode cJ1_indexOf_4cfef 17 = .ok (.arraylength, 1) := by decide +kernel
theorem dJ1_indexOf_4cfef_18 : decode cJ1_indexOf_4cfef 18 = .ok (.invokestatic 38, 3) := by decide +kernel
theorem dJ1_indexOf_4cfef_21 : decode cJ1_indexOf_4cfef 21 = .ok (.istore_n 3, 1) := by decide +kernel
theorem dJ1_indexOf_4cfef_22 : decode cJ1_indexOf_4cfef 22 = .ok (.iload_n 2, 1) := by decide +kernel
theorem dJ1_indexOf_4cfef_23 : decode cJ1_indexOf_4cfef 23 = .ok (.iload_n 3, 1) := by decide +kernel
theorem dJ1_indexOf_4cfef_24 : decode cJ1_indexOf_4cfef 24 = .ok (.if_icmp .lt 5, 3) := by decide +kernel
theorem dJ1_indexOf_4cfef_27 : decode cJ1_indexOf_4cfef 27 = .ok (.iconst (-1), 1) := by decide +kernel
theorem dJ1_indexOf_4cfef_28 : decode cJ1_indexOf_4cfef 28 = .ok (.ireturn, 1) := by decide +kernel
theorem dJ1_indexOf_4cfef_29 : decode cJ1_indexOf_4cfef 29 = .ok (.aload_n 0, 1) := by decide +kernel
theorem dJ1_indexOf_4cfef_30 : decode cJ1_indexOf_4cfef 30 = .ok (.iload_n 1, 1) := by decide +kernel
theorem dJ1_indexOf_4cfef_31 : decode cJ1_indexOf_4cfef 31 = .ok (.iload_n 2, 1) := by decide +kernel
theorem dJ1_indexOf_4cfef_32 : decode cJ1_indexOf_4cfef 32 = .ok (.iload_n 3, 1) := by decide +kernel
theorem dJ1_indexOf_4cfef_33 : decode cJ1_indexOf_4cfef 33 = .ok (.invokestatic 95, 3) := by decide +kernel
theorem dJ1_indexOf_4cfef_36 : decode cJ1_indexOf_4cfef 36 = .ok (.ireturn, 1) := by decide +kernel
theorem dJ0_indexOf_7cf53_0 : decode cJ0_indexOf_7cf53 0 = .ok (.aload_n 0, 1) := by decide +kernel
theorem dJ0_indexOf_7cf53_1 : decode cJ0_indexOf_7cf53 1 = .ok (.invokevirtual 492, 3) := by decide +kernel
theorem dJ0_indexOf_7cf53_4 : decode cJ0_indexOf_7cf53 4 = .ok (.ifCond .eq 19, 3) := by decide +kernel
theorem dJ0_indexOf_7cf53_7 : decode cJ0_indexOf_7cf53 7 = .ok (.aload_n 0, 1) := by decide +kernel
theorem dJ0_indexOf_7cf53_8 : decode cJ0_indexOf_7cf53 8 = .ok (.getfield 9, 3) := by decide +kernel
theorem dJ0_indexOf_7cf53_11 : decode cJ0_indexOf_7cf53 11 = .ok (.iload_n 1, 1) := by decide +kernel
theorem dJ0_indexOf_7cf53_12 : decode cJ0_indexOf_7cf53 12 = .ok (.iload_n 2, 1) := by decide +kernel
theorem dJ0_indexOf_7cf53_13 : decode cJ0_indexOf_7cf53 13 = .ok (.aload_n 0, 1) := by decide +kernel
theorem dJ0_indexOf_7cf53_14 : decode cJ0_indexOf_7cf53 14 = .ok (.invokevirtual 505, 3) := by decide +kernel
theorem dJ0_indexOf_7cf53_17 : decode cJ0_indexOf_7cf53 17 = .ok (.invokestatic 637, 3) := by decide +kernel
theorem dJ0_indexOf_7cf53_20 : decode cJ0_indexOf_7cf53 20 = .ok (.goto 16, 3) := by decide +kernel
theorem dJ0_indexOf_7cf53_23 : decode cJ0_indexOf_7cf53 23 = .ok (.aload_n 0, 1) := by decide +kernel
theorem dJ0_indexOf_7cf53_24 : decode cJ0_indexOf_7cf53 24 = .ok (.getfield 9, 3) := by decide +kernel
theorem dJ0_indexOf_7cf53_27 : decode cJ0_indexOf_7cf53 27 = .ok (.iload_n 1, 1) := by decide +kernel
theorem dJ0_indexOf_7cf53_28 : decode cJ0_indexOf_7cf53 28 = .ok (.iload_n 2, 1) := by decide +kernel
theorem dJ0_indexOf_7cf53_29 : decode cJ0_indexOf_7cf53 29 = .ok (.aload_n 0, 1) := by decide +kernel
theorem dJ0_indexOf_7cf53_30 : decode cJ0_indexOf_7cf53 30 = .ok (.invokevirtual 505, 3) := by decide +kernel
theorem dJ0_indexOf_7cf53_33 : decode cJ0_indexOf_7cf53 33 = .ok (.invokestatic 640, 3) := by decide +kernel
theorem dJ0_indexOf_7cf53_36 : decode cJ0_indexOf_7cf53 36 = .ok (.ireturn, 1) := by decide +kernel
theorem dJ0_indexOf_0f7a4_0 : decode cJ0_indexOf_0f7a4 0 = .ok (.aload_n 0, 1) := by decide +kernel
theorem dJ0_indexOf_0f7a4_1 : decode cJ0_indexOf_0f7a4 1 = .ok (.iload_n 1, 1) := by decide +kernel
theorem dJ0_indexOf_0f7a4_2 : decode cJ0_indexOf_0f7a4 2 = .ok (.iconst 0, 1) := by decide +kernel
theorem dJ0_indexOf_0f7a4_3 : decode cJ0_indexOf_0f7a4 3 = .ok (.invokevirtual 633, 3) := by decide +kernel
theorem dJ0_indexOf_0f7a4_6 : decode cJ0_indexOf_0f7a4 6 = .ok (.ireturn, 1) := by decide +kernel
theorem dJ3_checkIndex_8e157_0 : decode cJ3_checkIndex_8e157 0 = .ok (.iload_n 0, 1) := by decide +kernel
theorem dJ3_checkIndex_8e157_1 : decode cJ3_checkIndex_8e157 1 = .ok (.ifCond .lt 8, 3) := by decide +kernel
theorem dJ3_checkIndex_8e157_4 : decode cJ3_checkIndex_8e157 4 = .ok (.iload_n 0, 1) := by decide +kernel
theorem dJ3_checkIndex_8e157_5 : decode cJ3_checkIndex_8e157 5 = .ok (.iload_n 1, 1) := by decide +kernel
theorem dJ3_checkIndex_8e157_6 : decode cJ3_checkIndex_8e157 6 = .ok (.if_icmp .lt 10, 3) := by decide +kernel
theorem dJ3_checkIndex_8e157_9 : decode cJ3_checkIndex_8e157 9 = .ok (.aload_n 2, 1) := by decide +kernel
theorem dJ3_checkIndex_8e157_10 : decode cJ3_checkIndex_8e157 10 = .ok (.iload_n 0, 1) := by decide +kernel
theorem dJ3_checkIndex_8e157_11 : decode cJ3_checkIndex_8e157 11 = .ok (.iload_n 1, 1) := by decide +kernel
theorem dJ3_checkIndex_8e157_12 : decode cJ3_checkIndex_8e157 12 = .ok (.invokestatic 95, 3) := by decide +kernel
theorem dJ3_checkIndex_8e157_15 : decode cJ3_checkIndex_8e157 15 = .ok (.athrow, 1) := by decide +kernel
theorem dJ3_checkIndex_8e157_16 : decode cJ3_checkIndex_8e157 16 = .ok (.iload_n 0, 1) := by decide +kernel
theorem dJ3_checkIndex_8e157_17 : decode cJ3_checkIndex_8e157 17 = .ok (.ireturn, 1) := by decide +kernel
theorem dJ0_checkIndex_df160_0 : decode cJ0_checkIndex_df160 0 = .ok (.iload_n 0, 1) := by decide +kernel
theorem dJ0_checkIndex_df160_1 : decode cJ0_checkIndex_df160 1 = .ok (.iload_n 1, 1) := by decide +kernel
theorem dJ0_checkIndex_df160_2 : decode cJ0_checkIndex_df160 2 = .ok (.getstatic 1053, 3) := by decide +kernel
theorem dJ0_checkIndex_df160_5 : decode cJ0_checkIndex_df160 5 = .ok (.invokestatic 1059, 3) := by decide +kernel
theorem dJ0_checkIndex_df160_8 : decode cJ0_checkIndex_df160 8 = .ok (.pop, 1) := by decide +kernel
theorem dJ0_checkIndex_df160_9 : decode cJ0_checkIndex_df160 9 = .ok (.return_, 1) := by decide +kernel
theorem dJ1_charAt_3b067_0 : decode cJ1_charAt_3b067 0 = .ok (.iload_n 1, 1) := by decide +kernel
theorem dJ1_charAt_3b067_1 : decode cJ1_charAt_3b067 1 = .ok (.aload_n 0, 1) := by decide +kernel
theorem dJ1_charAt_3b067_2 : decode cJ1_charAt_3b067 2 = .ok (.arraylength, 1) := by decide +kernel
theorem dJ1_charAt_3b067_3 : decode cJ1_charAt_3b067 3 = .ok (.invokestatic 9, 3) := by decide +kernel
theorem dJ1_charAt_3b067_6 : decode cJ1_charAt_3b067 6 = .ok (.aload_n 0, 1) := by decide +kernel
theorem dJ1_charAt_3b067_7 : decode cJ1_charAt_3b067 7 = .ok (.iload_n 1, 1) := by decide +kernel
theorem dJ1_charAt_3b067_8 : decode cJ1_charAt_3b067 8 = .ok (.baload, 1) := by decide +kernel
theorem dJ1_charAt_3b067_9 : decode cJ1_charAt_3b067 9 = .ok (.sipush 255, 3) := by decide +kernel
theorem dJ1_charAt_3b067_12 : decode cJ1_charAt_3b067 12 = .ok (.iand, 1) := by decide +kernel
theorem dJ1_charAt_3b067_13 : decode cJ1_charAt_3b067 13 = .ok (.i2c, 1) := by decide +kernel
theorem dJ1_charAt_3b067_14 : decode cJ1_charAt_3b067 14 = .ok (.ireturn, 1) := by decide +kernel
theorem dJ0_charAt_5068e_0 : decode cJ0_charAt_5068e 0 = .ok (.aload_n 0, 1) := by decide +kernel
theorem dJ0_charAt_5068e_1 : decode cJ0_charAt_5068e 1 = .ok (.invokevirtual 492, 3) := by decide +kernel
theorem dJ0_charAt_5068e_4 : decode cJ0_charAt_5068e 4 = .ok (.ifCond .eq 12, 3) := by decide +kernel
theorem dJ0_charAt_5068e_7 : decode cJ0_charAt_5068e 7 = .ok (.aload_n 0, 1) := by decide +kernel
theorem dJ0_charAt_5068e_8 : decode cJ0_charAt_5068e 8 = .ok (.getfield 9, 3) := by decide +kernel
theorem dJ0_charAt_5068e_11 : decode cJ0_charAt_5068e 11 = .ok (.iload_n 1, 1) := by decide +kernel
theorem dJ0_charAt_5068e_12 : decode cJ0_charAt_5068e 12 = .ok (.invokestatic 495, 3) := by decide +kernel
theorem dJ0_charAt_5068e_15 : decode cJ0_charAt_5068e 15 = .ok (.ireturn, 1) := by decide +kernel
theorem dJ0_charAt_5068e_16 : decode cJ0_charAt_5068e 16 = .ok (.aload_n 0, 1) := by decide +kernel
theorem dJ0_charAt_5068e_17 : decode cJ0_charAt_5068e 17 = .ok (.getfield 9, 3) := by decide +kernel
theorem dJ0_charAt_5068e_20 : decode cJ0_charAt_5068e 20 = .ok (.iload_n 1, 1) := by decide +kernel
theorem dJ0_charAt_5068e_21 : decode cJ0_charAt_5068e 21 = .ok (.invokestatic 498, 3) := by decide +kernel
theorem dJ0_charAt_5068e_24 : decode cJ0_charAt_5068e 24 = .ok (.ireturn, 1) := by decide +kernel
set_option maxHeartbeats 4000000 in
set_option maxRecDepth 100000 in
theorem t_J0_isLatin1_aae02 {D : va_G} {s0 : State} {l : Launch} {G : GH} {sa sv N : Nat} {f : Nat → Int32} (hs : StrB s0 sa sv N f) : Tri D s0 l yJ0_isLatin1_aae02 cJ0_isLatin1_aae02 1 ((some .boolean)) 0 0 0 [.ref sa] G (fun r G' => r = some (.int 1) ∧ G' = G) noX := by
  refine tr_fr (fun h0 => ?_)
  refine Tri.ofV (own := RJ0) (mn := "isLatin1") (by decide +kernel) rfl rfl (Nat.le_of_ble_eq_true rfl) ?_
  refine V_gst h0.cs fb_J0_38 dJ0_isLatin1_aae02_0 ?_
  refine V_if_eq (tgt := 17) dJ0_isLatin1_aae02_3 (by decide) (fun h3 => by first | exact absurd h3 (by decide) | exact absurd (by decide) h3) (fun _ => ?_)
  refine V_aload_n (i := 0) dJ0_isLatin1_aae02_6 rfl rfl ?_
  refine V_getfB hs.2.1 fb_J0_15 dJ0_isLatin1_aae02_7 ?_
  refine V_if_ne (tgt := 17) dJ0_isLatin1_aae02_10 (by decide) (fun h10 => by first | exact absurd h10 (by decide) | exact absurd (by decide) h10) (fun _ => ?_)
  refine V_iconst (v := 1) dJ0_isLatin1_aae02_13 (by decide) ?_
  refine V_goto (tgt := 18) dJ0_isLatin1_aae02_14 (by decide) ?_
  refine V_zret dJ0_isLatin1_aae02_18 rfl (by first | rfl | exact bi_n _) (Nat.le_of_ble_eq_true rfl) (Nat.le_of_ble_eq_true rfl) ?_
  exact ⟨rfl, rfl⟩

set_option maxHeartbeats 4000000 in
set_option maxRecDepth 100000 in
theorem t_J0_coder_7d493 {D : va_G} {s0 : State} {l : Launch} {G : GH} {sa sv N : Nat} {f : Nat → Int32} (hs : StrB s0 sa sv N f) : Tri D s0 l yJ0_coder_7d493 cJ0_coder_7d493 1 ((some .byte)) 0 0 0 [.ref sa] G (fun r G' => r = some (.int 0) ∧ G' = G) noX := by
  refine tr_fr (fun h0 => ?_)
  refine Tri.ofV (own := RJ0) (mn := "coder") (by decide +kernel) rfl rfl (Nat.le_of_ble_eq_true rfl) ?_
  refine V_gst h0.cs fb_J0_38 dJ0_coder_7d493_0 ?_
  refine V_if_eq (tgt := 13) dJ0_coder_7d493_3 (by decide) (fun h3 => by first | exact absurd h3 (by decide) | exact absurd (by decide) h3) (fun _ => ?_)
  refine V_aload_n (i := 0) dJ0_coder_7d493_6 rfl rfl ?_
  refine V_getfB hs.2.1 fb_J0_15 dJ0_coder_7d493_7 ?_
  refine V_goto (tgt := 14) dJ0_coder_7d493_10 (by decide) ?_
  refine V_zret dJ0_coder_7d493_14 rfl (by first | rfl | exact bi_n _) (Nat.le_of_ble_eq_true rfl) (Nat.le_of_ble_eq_true rfl) ?_
  exact ⟨rfl, rfl⟩

set_option maxHeartbeats 4000000 in
set_option maxRecDepth 100000 in
theorem t_J0_length_8abf5 {D : va_G} {s0 : State} {l : Launch} {G : GH} {sa sv N : Nat} {f : Nat → Int32} (hs : StrB s0 sa sv N f) : Tri D s0 l yJ0_length_8abf5 cJ0_length_8abf5 1 ((some .int)) 1 0 0 [.ref sa] G (fun r G' => r = some (.int (nI N)) ∧ G' = G) noX := by
  refine Tri.ofV (own := RJ0) (mn := "length") (by decide +kernel) rfl rfl (Nat.le_of_ble_eq_true rfl) ?_
  refine V_aload_n (i := 0) dJ0_length_8abf5_0 rfl rfl ?_
  refine V_getfB hs.2.2.1 fb_J0_9 dJ0_length_8abf5_1 ?_
  refine V_tlen hs.2.2.2 dJ0_length_8abf5_4 ?_
  refine V_aload_n (i := 0) dJ0_length_8abf5_5 rfl rfl ?_
  refine Cb1_0 (d := 1) cv_J0_335 dJ0_length_8abf5_6 (t_J0_coder_7d493 hs) (hs.1) (Nat.le_of_ble_eq_true rfl) ⟨Nat.le_refl _, Nat.le_refl _⟩ (by decide) ⟨Nat.le_of_ble_eq_true rfl, Nat.le_of_ble_eq_true rfl⟩ ?_
  refine V_ishr dJ0_length_8abf5_9 ?_
  rw [sb_shr0]
  refine V_iret dJ0_length_8abf5_10 rfl (Nat.le_of_ble_eq_true rfl) (Nat.le_of_ble_eq_true rfl) ?_
  exact ⟨rfl, rfl⟩

set_option maxHeartbeats 4000000 in
set_option maxRecDepth 100000 in
theorem t_J1_canEncode_9a6ad {D : va_G} {s0 : State} {l : Launch} {G : GH} {x : Int32} : Tri D s0 l yJ1_canEncode_9a6ad cJ1_canEncode_9a6ad 1 ((some .boolean)) 0 0 0 [.int x] G (fun r G' => r = some (.int (bi (decide (0 ≤ x) && decide (x ≤ 255)))) ∧ G' = G) noX := by
  refine Tri.ofV (own := RJ1) (mn := "canEncode") (by decide +kernel) rfl rfl (Nat.le_of_ble_eq_true rfl) ?_
  refine V_iload_n (i := 0) dJ1_canEncode_9a6ad_0 rfl rfl ?_
  refine V_if_lt (tgt := 15) dJ1_canEncode_9a6ad_1 (by decide) (fun h1 => ?_) (fun h1 => ?_)
  · have q := Int32.not_le.mpr h1
    refine V_iconst (v := 0) dJ1_canEncode_9a6ad_15 (by decide) ?_
    refine V_zret dJ1_canEncode_9a6ad_16 rfl (by first | rfl | exact bi_n _) (Nat.le_of_ble_eq_true rfl) (Nat.le_of_ble_eq_true rfl) ?_
    refine ⟨congrArg (fun z => some (Value.int z)) ?_, rfl⟩
    simp [bi, *]
  · have q := Int32.not_lt.mp h1
    refine V_iload_n (i := 0) dJ1_canEncode_9a6ad_4 rfl rfl ?_
    refine V_sipush (v := 255) dJ1_canEncode_9a6ad_5 (by decide) ?_
    refine V_icmp_gt (tgt := 15) dJ1_canEncode_9a6ad_8 (by decide) (fun h8 => ?_) (fun h8 => ?_)
    · have q2 := Int32.not_le.mpr h8
      refine V_iconst (v := 0) dJ1_canEncode_9a6ad_15 (by decide) ?_
      refine V_zret dJ1_canEncode_9a6ad_16 rfl (by first | rfl | exact bi_n _) (Nat.le_of_ble_eq_true rfl) (Nat.le_of_ble_eq_true rfl) ?_
      refine ⟨congrArg (fun z => some (Value.int z)) ?_, rfl⟩
      simp [bi, *]
    · have q2 := Int32.not_lt.mp h8
      refine V_iconst (v := 1) dJ1_canEncode_9a6ad_11 (by decide) ?_
      refine V_goto (tgt := 16) dJ1_canEncode_9a6ad_12 (by decide) ?_
      refine V_zret dJ1_canEncode_9a6ad_16 rfl (by first | rfl | exact bi_n _) (Nat.le_of_ble_eq_true rfl) (Nat.le_of_ble_eq_true rfl) ?_
      refine ⟨congrArg (fun z => some (Value.int z)) ?_, rfl⟩
      simp [bi, *]

/-- the first place, from i on, that holds y -/
def fnd (f : Nat → Int32) (y : Int32) : Nat → Nat → Int32
  | 0, _ => -1
  | n + 1, i => if f i = y then nI i else fnd f y n (i + 1)

set_option maxHeartbeats 4000000 in
set_option maxRecDepth 100000 in
theorem t_J1_indexOfChar_4cfef {D : va_G} {s0 : State} {l : Launch} {G : GH} {sa sv N : Nat} {f : Nat → Int32} (hs : StrB s0 sa sv N f) (hN : N < 2147483648) {x : Int32} : Tri D s0 l yJ1_indexOfChar_4cfef cJ1_indexOfChar_4cfef 6 ((some .int)) 0 0 0 [.ref sv, .int x, .int (nI 0), .int (nI N)] G (fun r G' => r = some (.int (fnd f x.toInt8.toInt32 N 0)) ∧ G' = G) noX := by
  refine Tri.ofV (own := RJ1) (mn := "indexOfChar") (by decide +kernel) rfl rfl (Nat.le_of_ble_eq_true rfl) ?_
  have loop : ∀ n i : Nat, i + n = N → fnd f x.toInt8.toInt32 n i = fnd f x.toInt8.toInt32 N 0 → V D s0 RJ1 "indexOfChar" cJ1_indexOfChar_4cfef 6 ((some .int)) [] l (rmd 0 0 0) (Zm D s0 0 0 (fun r G' => r = some (.int (fnd f x.toInt8.toInt32 N 0)) ∧ G' = G) noX) 7 [(0, .ref sv), (1, .int x), (2, .int (nI 0)), (3, .int (nI N)), (4, .int x.toInt8.toInt32), (5, .int (nI i))] [] G 0 0 := by
    intro n
    induction n with
    | zero =>
      intro i hi9 he
      obtain rfl : N = i := by omega
      refine V_iload (i := 5) dJ1_indexOfChar_4cfef_7 rfl ?_
      refine V_iload_n (i := 3) dJ1_indexOfChar_4cfef_9 rfl rfl ?_
      refine V_icmp_ge (tgt := 31) dJ1_indexOfChar_4cfef_10 (by decide) (fun _ => ?_) (fun h10 => by first | exact absurd (nI_le (Nat.le_refl _) (by omega)) h10 | exact absurd h10 (nI_le (Nat.le_refl _) (by omega)))
      refine V_iconst (v := (-1)) dJ1_indexOfChar_4cfef_31 (by decide) ?_
      refine V_iret dJ1_indexOfChar_4cfef_32 rfl (Nat.le_of_ble_eq_true rfl) (Nat.le_of_ble_eq_true rfl) ?_
      exact ⟨congrArg (fun z => some (Value.int z)) he, rfl⟩
    | succ n ih =>
      intro i hi9 he
      refine V_iload (i := 5) dJ1_indexOfChar_4cfef_7 rfl ?_
      refine V_iload_n (i := 3) dJ1_indexOfChar_4cfef_9 rfl rfl ?_
      refine V_icmp_ge (tgt := 31) dJ1_indexOfChar_4cfef_10 (by decide) (fun h10 => by first | exact absurd h10 (nI_ge (by omega) (by omega)) | exact absurd (nI_ge (by omega) (by omega)) h10) (fun _ => ?_)
      refine V_aload_n (i := 0) dJ1_indexOfChar_4cfef_13 rfl rfl ?_
      refine V_iload (i := 5) dJ1_indexOfChar_4cfef_14 rfl ?_
      refine V_tb hs.2.2.2 rfl (by omega) (by omega) dJ1_indexOfChar_4cfef_16 ?_
      refine V_iload (i := 4) dJ1_indexOfChar_4cfef_17 rfl ?_
      refine V_icmp_ne (tgt := 25) dJ1_indexOfChar_4cfef_19 (by decide) (fun h19 => ?_) (fun h19 => ?_)
      · rw [fnd, if_neg h19] at he
        refine V_iinc (i := 5) dJ1_indexOfChar_4cfef_25 rfl (inc1 _) (by decide) ?_
        refine V_goto (tgt := 7) dJ1_indexOfChar_4cfef_28 (by decide) ?_
        exact V.fin [1, 2, 3, 4, 5, 0] rfl rfl (ih (i + 1) (by omega) he)
      · rw [fnd, if_pos h19] at he
        refine V_iload (i := 5) dJ1_indexOfChar_4cfef_22 rfl ?_
        refine V_iret dJ1_indexOfChar_4cfef_24 rfl (Nat.le_of_ble_eq_true rfl) (Nat.le_of_ble_eq_true rfl) ?_
        exact ⟨congrArg (fun z => some (Value.int z)) he, rfl⟩
  refine V_iload_n (i := 1) dJ1_indexOfChar_4cfef_0 rfl rfl ?_
  refine V_i2b dJ1_indexOfChar_4cfef_1 rfl ?_
  refine V_istore (i := 4) dJ1_indexOfChar_4cfef_2 (by decide) ?_
  refine V_iload_n (i := 2) dJ1_indexOfChar_4cfef_4 rfl rfl ?_
  refine V_istore (i := 5) dJ1_indexOfChar_4cfef_5 (by decide) ?_
  exact V.fin [2, 3, 4, 5, 1, 0] rfl rfl (loop N 0 (by omega) rfl)

set_option maxHeartbeats 4000000 in
set_option maxRecDepth 100000 in
theorem t_J1_indexOf_4cfef {D : va_G} {s0 : State} {l : Launch} {G : GH} {sa sv N : Nat} {f : Nat → Int32} (hs : StrB s0 sa sv N f) (hN : N < 2147483648) (hp : 0 < N) {x : Int32} : Tri D s0 l yJ1_indexOf_4cfef cJ1_indexOf_4cfef 4 ((some .int)) 2 0 0 [.ref sv, .int x, .int 0, .int (nI N)] G (fun r G' => r = some (.int (if 0 ≤ x ∧ x ≤ 255 then fnd f x.toInt8.toInt32 N 0 else -1)) ∧ G' = G) noX := by
  refine Tri.ofV (own := RJ1) (mn := "indexOf") (by decide +kernel) rfl rfl (Nat.le_of_ble_eq_true rfl) ?_
  refine V_iload_n (i := 1) dJ1_indexOf_4cfef_0 rfl rfl ?_
  refine Cx1_1 (d := 2) csx_J1_88 dJ1_indexOf_4cfef_1 (t_J1_canEncode_9a6ad) (Nat.le_of_ble_eq_true rfl) ⟨Nat.le_refl _, Nat.le_refl _⟩ (by decide) ⟨Nat.le_of_ble_eq_true rfl, Nat.le_of_ble_eq_true rfl⟩ ?_
  refine V_if_ne (tgt := 9) dJ1_indexOf_4cfef_4 (by decide) (fun h4 => ?_) (fun h4 => ?_)
  · replace h4 := bi_1.mp h4
    simp only [Bool.and_eq_true, decide_eq_true_eq] at h4
    refine V_iload_n (i := 2) dJ1_indexOf_4cfef_9 rfl rfl ?_
    refine V_iconst (v := 0) dJ1_indexOf_4cfef_10 (by decide) ?_
    refine V_mmax cm_J1_92 dJ1_indexOf_4cfef_11 (Nat.le_of_ble_eq_true rfl) (Nat.le_of_ble_eq_true rfl) (Nat.le_of_ble_eq_true rfl) (Nat.le_of_ble_eq_true rfl) ?_
    rw [show (if (0 : Int32) < 0 then (0 : Int32) else 0) = nI 0 from rfl]
    refine V_istore_n (i := 2) dJ1_indexOf_4cfef_14 rfl (by decide) ?_
    refine V_iload_n (i := 3) dJ1_indexOf_4cfef_15 rfl rfl ?_
    refine V_aload_n (i := 0) dJ1_indexOf_4cfef_16 rfl rfl ?_
    refine V_tlen hs.2.2.2 dJ1_indexOf_4cfef_17 ?_
    refine V_mmin cm_J1_38 dJ1_indexOf_4cfef_18 (Nat.le_of_ble_eq_true rfl) (Nat.le_of_ble_eq_true rfl) (Nat.le_of_ble_eq_true rfl) (Nat.le_of_ble_eq_true rfl) ?_
    rw [show (if nI N < nI N then nI N else nI N) = nI N from by split <;> rfl]
    refine V_istore_n (i := 3) dJ1_indexOf_4cfef_21 rfl (by decide) ?_
    refine V_iload_n (i := 2) dJ1_indexOf_4cfef_22 rfl rfl ?_
    refine V_iload_n (i := 3) dJ1_indexOf_4cfef_23 rfl rfl ?_
    refine V_icmp_lt (tgt := 29) dJ1_indexOf_4cfef_24 (by decide) (fun _ => ?_) (fun h24 => by first | exact absurd ((nI_ltI (by omega) hN).mpr hp) h24 | exact absurd h24 ((nI_ltI (by omega) hN).mpr hp))
    refine V_aload_n (i := 0) dJ1_indexOf_4cfef_29 rfl rfl ?_
    refine V_iload_n (i := 1) dJ1_indexOf_4cfef_30 rfl rfl ?_
    refine V_iload_n (i := 2) dJ1_indexOf_4cfef_31 rfl rfl ?_
    refine V_iload_n (i := 3) dJ1_indexOf_4cfef_32 rfl rfl ?_
    refine Cx1_4 (d := 2) csx_J1_95 dJ1_indexOf_4cfef_33 (t_J1_indexOfChar_4cfef hs hN) (Nat.le_of_ble_eq_true rfl) ⟨Nat.le_refl _, Nat.le_refl _⟩ (by decide) ⟨Nat.le_of_ble_eq_true rfl, Nat.le_of_ble_eq_true rfl⟩ ?_
    refine V_iret dJ1_indexOf_4cfef_36 rfl (Nat.le_of_ble_eq_true rfl) (Nat.le_of_ble_eq_true rfl) ?_
    exact ⟨by rw [if_pos h4], rfl⟩
  · replace h4 := bi_0.mp h4
    simp only [Bool.and_eq_false_iff, decide_eq_false_iff_not] at h4
    refine V_iconst (v := (-1)) dJ1_indexOf_4cfef_7 (by decide) ?_
    refine V_iret dJ1_indexOf_4cfef_8 rfl (Nat.le_of_ble_eq_true rfl) (Nat.le_of_ble_eq_true rfl) ?_
    exact ⟨by rw [if_neg (fun q => h4.elim (fun z => z q.1) (fun z => z q.2))], rfl⟩

set_option maxHeartbeats 4000000 in
set_option maxRecDepth 100000 in
theorem t_J0_indexOf_7cf53 {D : va_G} {s0 : State} {l : Launch} {G : GH} {sa sv N : Nat} {f : Nat → Int32} (hs : StrB s0 sa sv N f) (hN : N < 2147483648) (hp : 0 < N) {x : Int32} : Tri D s0 l yJ0_indexOf_7cf53 cJ0_indexOf_7cf53 3 ((some .int)) 3 0 0 [.ref sa, .int x, .int 0] G (fun r G' => r = some (.int (if 0 ≤ x ∧ x ≤ 255 then fnd f x.toInt8.toInt32 N 0 else -1)) ∧ G' = G) noX := by
  refine Tri.ofV (own := RJ0) (mn := "indexOf") (by decide +kernel) rfl rfl (Nat.le_of_ble_eq_true rfl) ?_
  refine V_aload_n (i := 0) dJ0_indexOf_7cf53_0 rfl rfl ?_
  refine Cb1_0 (d := 3) cv_J0_492 dJ0_indexOf_7cf53_1 (t_J0_isLatin1_aae02 hs) (hs.1) (Nat.le_of_ble_eq_true rfl) ⟨Nat.le_refl _, Nat.le_refl _⟩ (by decide) ⟨Nat.le_of_ble_eq_true rfl, Nat.le_of_ble_eq_true rfl⟩ ?_
  refine V_if_eq (tgt := 23) dJ0_indexOf_7cf53_4 (by decide) (fun h4 => by first | exact absurd h4 (by decide) | exact absurd (by decide) h4) (fun _ => ?_)
  refine V_aload_n (i := 0) dJ0_indexOf_7cf53_7 rfl rfl ?_
  refine V_getfB hs.2.2.1 fb_J0_9 dJ0_indexOf_7cf53_8 ?_
  refine V_iload_n (i := 1) dJ0_indexOf_7cf53_11 rfl rfl ?_
  refine V_iload_n (i := 2) dJ0_indexOf_7cf53_12 rfl rfl ?_
  refine V_aload_n (i := 0) dJ0_indexOf_7cf53_13 rfl rfl ?_
  refine Cb1_0 (d := 3) cv_J0_505 dJ0_indexOf_7cf53_14 (t_J0_length_8abf5 hs) (hs.1) (Nat.le_of_ble_eq_true rfl) ⟨Nat.le_refl _, Nat.le_refl _⟩ (by decide) ⟨Nat.le_of_ble_eq_true rfl, Nat.le_of_ble_eq_true rfl⟩ ?_
  refine Cx1_4 (d := 3) csx_J0_637 dJ0_indexOf_7cf53_17 (t_J1_indexOf_4cfef hs hN hp) (Nat.le_of_ble_eq_true rfl) ⟨Nat.le_refl _, Nat.le_refl _⟩ (by decide) ⟨Nat.le_of_ble_eq_true rfl, Nat.le_of_ble_eq_true rfl⟩ ?_
  refine V_goto (tgt := 36) dJ0_indexOf_7cf53_20 (by decide) ?_
  refine V_iret dJ0_indexOf_7cf53_36 rfl (Nat.le_of_ble_eq_true rfl) (Nat.le_of_ble_eq_true rfl) ?_
  exact ⟨rfl, rfl⟩

set_option maxHeartbeats 4000000 in
set_option maxRecDepth 100000 in
theorem t_J0_indexOf_0f7a4 {D : va_G} {s0 : State} {l : Launch} {G : GH} {sa sv N : Nat} {f : Nat → Int32} (hs : StrB s0 sa sv N f) (hN : N < 2147483648) (hp : 0 < N) {x : Int32} : Tri D s0 l yJ0_indexOf_0f7a4 cJ0_indexOf_0f7a4 2 ((some .int)) 4 0 0 [.ref sa, .int x] G (fun r G' => r = some (.int (if 0 ≤ x ∧ x ≤ 255 then fnd f x.toInt8.toInt32 N 0 else -1)) ∧ G' = G) noX := by
  refine Tri.ofV (own := RJ0) (mn := "indexOf") (by decide +kernel) rfl rfl (Nat.le_of_ble_eq_true rfl) ?_
  refine V_aload_n (i := 0) dJ0_indexOf_0f7a4_0 rfl rfl ?_
  refine V_iload_n (i := 1) dJ0_indexOf_0f7a4_1 rfl rfl ?_
  refine V_iconst (v := 0) dJ0_indexOf_0f7a4_2 (by decide) ?_
  refine Cb1_2 (d := 4) cv_J0_633 dJ0_indexOf_0f7a4_3 (t_J0_indexOf_7cf53 hs hN hp) (hs.1) (Nat.le_of_ble_eq_true rfl) ⟨Nat.le_refl _, Nat.le_refl _⟩ (by decide) ⟨Nat.le_of_ble_eq_true rfl, Nat.le_of_ble_eq_true rfl⟩ ?_
  refine V_iret dJ0_indexOf_0f7a4_6 rfl (Nat.le_of_ble_eq_true rfl) (Nat.le_of_ble_eq_true rfl) ?_
  exact ⟨rfl, rfl⟩

set_option maxHeartbeats 4000000 in
set_option maxRecDepth 100000 in
theorem t_J3_checkIndex_n {D : va_G} {s0 : State} {l : Launch} {G : GH} {k N : Nat} (hk : k < N) (hN : N < 2147483648) : Tri D s0 l yJ3_checkIndex_8e157 cJ3_checkIndex_8e157 3 ((some .int)) 0 0 0 [.int (nI k), .int (nI N), .null] G (fun r G' => r = some (.int (nI k)) ∧ G' = G) noX := by
  refine Tri.ofV (own := RJ3) (mn := "checkIndex") (by decide +kernel) rfl rfl (Nat.le_of_ble_eq_true rfl) ?_
  refine V_iload_n (i := 0) dJ3_checkIndex_8e157_0 rfl rfl ?_
  refine V_if_lt (tgt := 9) dJ3_checkIndex_8e157_1 (by decide) (fun h1 => by first | exact absurd h1 (nI_pos (by omega)) | exact absurd (nI_pos (by omega)) h1) (fun _ => ?_)
  refine V_iload_n (i := 0) dJ3_checkIndex_8e157_4 rfl rfl ?_
  refine V_iload_n (i := 1) dJ3_checkIndex_8e157_5 rfl rfl ?_
  refine V_icmp_lt (tgt := 16) dJ3_checkIndex_8e157_6 (by decide) (fun _ => ?_) (fun h6 => by first | exact absurd ((nI_ltI (by omega) hN).mpr hk) h6 | exact absurd h6 ((nI_ltI (by omega) hN).mpr hk))
  refine V_iload_n (i := 0) dJ3_checkIndex_8e157_16 rfl rfl ?_
  refine V_iret dJ3_checkIndex_8e157_17 rfl (Nat.le_of_ble_eq_true rfl) (Nat.le_of_ble_eq_true rfl) ?_
  exact ⟨rfl, rfl⟩

set_option maxHeartbeats 4000000 in
set_option maxRecDepth 100000 in
theorem t_J3_checkIndex_r {D : va_G} {s0 : State} {l : Launch} {G : GH} {k N : Nat} {q : Nat} (hk : k < N) (hN : N < 2147483648) : Tri D s0 l yJ3_checkIndex_8e157 cJ3_checkIndex_8e157 3 ((some .int)) 0 0 0 [.int (nI k), .int (nI N), .ref q] G (fun r G' => r = some (.int (nI k)) ∧ G' = G) noX := by
  refine Tri.ofV (own := RJ3) (mn := "checkIndex") (by decide +kernel) rfl rfl (Nat.le_of_ble_eq_true rfl) ?_
  refine V_iload_n (i := 0) dJ3_checkIndex_8e157_0 rfl rfl ?_
  refine V_if_lt (tgt := 9) dJ3_checkIndex_8e157_1 (by decide) (fun h1 => by first | exact absurd h1 (nI_pos (by omega)) | exact absurd (nI_pos (by omega)) h1) (fun _ => ?_)
  refine V_iload_n (i := 0) dJ3_checkIndex_8e157_4 rfl rfl ?_
  refine V_iload_n (i := 1) dJ3_checkIndex_8e157_5 rfl rfl ?_
  refine V_icmp_lt (tgt := 16) dJ3_checkIndex_8e157_6 (by decide) (fun _ => ?_) (fun h6 => by first | exact absurd ((nI_ltI (by omega) hN).mpr hk) h6 | exact absurd h6 ((nI_ltI (by omega) hN).mpr hk))
  refine V_iload_n (i := 0) dJ3_checkIndex_8e157_16 rfl rfl ?_
  refine V_iret dJ3_checkIndex_8e157_17 rfl (Nat.le_of_ble_eq_true rfl) (Nat.le_of_ble_eq_true rfl) ?_
  exact ⟨rfl, rfl⟩

theorem t_J3_checkIndex {D : va_G} {s0 : State} {l : Launch} {G : GH} {k N : Nat} {v : Value} (hv : v = .null ∨ ∃ t, v = .ref t) (hk : k < N) (hN : N < 2147483648) : Tri D s0 l yJ3_checkIndex_8e157 cJ3_checkIndex_8e157 3 ((some .int)) 0 0 0 [.int (nI k), .int (nI N), v] G (fun r G' => r = some (.int (nI k)) ∧ G' = G) noX := by
  rcases hv with rfl | ⟨t, rfl⟩
  · exact t_J3_checkIndex_n hk hN
  · exact t_J3_checkIndex_r hk hN

set_option maxHeartbeats 4000000 in
set_option maxRecDepth 100000 in
theorem t_J0_checkIndex_df160 {D : va_G} {s0 : State} {l : Launch} {G : GH} {k N : Nat} (hk : k < N) (hN : N < 2147483648) : Tri D s0 l yJ0_checkIndex_df160 cJ0_checkIndex_df160 2 (none) 1 0 0 [.int (nI k), .int (nI N)] G (fun r G' => r = none ∧ G' = G) noX := by
  refine tr_fr (fun h0 => ?_)
  obtain ⟨v, hv, hc⟩ := h0.sf
  refine Tri.ofV (own := RJ0) (mn := "checkIndex") (by decide +kernel) rfl rfl (Nat.le_of_ble_eq_true rfl) ?_
  refine V_iload_n (i := 0) dJ0_checkIndex_df160_0 rfl rfl ?_
  refine V_iload_n (i := 1) dJ0_checkIndex_df160_1 rfl rfl ?_
  refine V_gst hv fb_J0_1053 dJ0_checkIndex_df160_2 ?_
  refine Cx1_3 (d := 1) csx_J0_1059 dJ0_checkIndex_df160_5 (t_J3_checkIndex hc hk hN) (Nat.le_of_ble_eq_true rfl) ⟨Nat.le_refl _, Nat.le_refl _⟩ (by decide) ⟨Nat.le_of_ble_eq_true rfl, Nat.le_of_ble_eq_true rfl⟩ ?_
  refine V_pop dJ0_checkIndex_df160_8 rfl ?_
  refine V_vret dJ0_checkIndex_df160_9 rfl (Nat.le_of_ble_eq_true rfl) (Nat.le_of_ble_eq_true rfl) ?_
  exact ⟨rfl, rfl⟩

set_option maxHeartbeats 4000000 in
set_option maxRecDepth 100000 in
theorem t_J1_charAt_3b067 {D : va_G} {s0 : State} {l : Launch} {G : GH} {sa sv N : Nat} {f : Nat → Int32} (hs : StrB s0 sa sv N f) (hN : N < 2147483648) {k : Nat} (hk : k < N) (hc : ((f k &&& 255).toUInt32 % 65536).toInt32 = f k ∧ narrow .char (.int (f k)) = .int (f k)) : Tri D s0 l yJ1_charAt_3b067 cJ1_charAt_3b067 2 ((some .char)) 2 0 0 [.ref sv, .int (nI k)] G (fun r G' => r = some (.int (f k)) ∧ G' = G) noX := by
  refine Tri.ofV (own := RJ1) (mn := "charAt") (by decide +kernel) rfl rfl (Nat.le_of_ble_eq_true rfl) ?_
  refine V_iload_n (i := 1) dJ1_charAt_3b067_0 rfl rfl ?_
  refine V_aload_n (i := 0) dJ1_charAt_3b067_1 rfl rfl ?_
  refine V_tlen hs.2.2.2 dJ1_charAt_3b067_2 ?_
  refine Cx0_2 (d := 2) csx_J1_9 dJ1_charAt_3b067_3 (t_J0_checkIndex_df160 hk hN) (Nat.le_of_ble_eq_true rfl) ⟨Nat.le_refl _, Nat.le_refl _⟩ (by decide) ⟨Nat.le_of_ble_eq_true rfl, Nat.le_of_ble_eq_true rfl⟩ ?_
  refine V_aload_n (i := 0) dJ1_charAt_3b067_6 rfl rfl ?_
  refine V_iload_n (i := 1) dJ1_charAt_3b067_7 rfl rfl ?_
  refine V_tb hs.2.2.2 rfl hk hN dJ1_charAt_3b067_8 ?_
  refine V_sipush (v := 255) dJ1_charAt_3b067_9 (by decide) ?_
  refine V_iand dJ1_charAt_3b067_12 ?_
  refine V_i2c dJ1_charAt_3b067_13 hc.1 ?_
  refine V_zret dJ1_charAt_3b067_14 rfl hc.2 (Nat.le_of_ble_eq_true rfl) (Nat.le_of_ble_eq_true rfl) ?_
  exact ⟨rfl, rfl⟩

set_option maxHeartbeats 4000000 in
set_option maxRecDepth 100000 in
theorem t_J0_charAt_5068e {D : va_G} {s0 : State} {l : Launch} {G : GH} {sa sv N : Nat} {f : Nat → Int32} (hs : StrB s0 sa sv N f) (hN : N < 2147483648) {k : Nat} (hk : k < N) (hc : ((f k &&& 255).toUInt32 % 65536).toInt32 = f k ∧ narrow .char (.int (f k)) = .int (f k)) : Tri D s0 l yJ0_charAt_5068e cJ0_charAt_5068e 2 ((some .char)) 3 0 0 [.ref sa, .int (nI k)] G (fun r G' => r = some (.int (f k)) ∧ G' = G) noX := by
  refine Tri.ofV (own := RJ0) (mn := "charAt") (by decide +kernel) rfl rfl (Nat.le_of_ble_eq_true rfl) ?_
  refine V_aload_n (i := 0) dJ0_charAt_5068e_0 rfl rfl ?_
  refine Cb1_0 (d := 3) cv_J0_492 dJ0_charAt_5068e_1 (t_J0_isLatin1_aae02 hs) (hs.1) (Nat.le_of_ble_eq_true rfl) ⟨Nat.le_refl _, Nat.le_refl _⟩ (by decide) ⟨Nat.le_of_ble_eq_true rfl, Nat.le_of_ble_eq_true rfl⟩ ?_
  refine V_if_eq (tgt := 16) dJ0_charAt_5068e_4 (by decide) (fun h4 => by first | exact absurd h4 (by decide) | exact absurd (by decide) h4) (fun _ => ?_)
  refine V_aload_n (i := 0) dJ0_charAt_5068e_7 rfl rfl ?_
  refine V_getfB hs.2.2.1 fb_J0_9 dJ0_charAt_5068e_8 ?_
  refine V_iload_n (i := 1) dJ0_charAt_5068e_11 rfl rfl ?_
  refine Cx1_2 (d := 3) csx_J0_495 dJ0_charAt_5068e_12 (t_J1_charAt_3b067 hs hN hk hc) (Nat.le_of_ble_eq_true rfl) ⟨Nat.le_refl _, Nat.le_refl _⟩ (by decide) ⟨Nat.le_of_ble_eq_true rfl, Nat.le_of_ble_eq_true rfl⟩ ?_
  refine V_zret dJ0_charAt_5068e_15 rfl hc.2 (Nat.le_of_ble_eq_true rfl) (Nat.le_of_ble_eq_true rfl) ?_
  exact ⟨rfl, rfl⟩

def letB : List Int32 := [103, 108, 99, 98, 109, 112, 115, 100]
def letF : Nat → Int32 := fun j => letB.getD j 0
theorem S0.let_X1 {s0 : State} (h : S0 s0) : ∃ sa sv, vk_R RX1 43 "glcbmpsd" sa s0 ∧ StrB s0 sa sv 8 letF :=
  h.strc (f := letB) (by decide) (List.mem_of_getElem? (i := 935) (by decide +kernel)) (fl_mem 628 (by decide +kernel)) (fl_mem 629 (by decide +kernel)) (fl_mem 630 (by decide +kernel)) (fl_mem 631 (by decide +kernel)) (fun j hj => fl_mem (632 + j) (by
    rcases (by omega : j = 0 ∨ j = 1 ∨ j = 2 ∨ j = 3 ∨ j = 4 ∨ j = 5 ∨ j = 6 ∨ j = 7) with rfl | rfl | rfl | rfl | rfl | rfl | rfl | rfl <;> decide +kernel))
theorem S0.let_X8 {s0 : State} (h : S0 s0) : ∃ sa sv, vk_R RX8 199 "glcbmpsd" sa s0 ∧ StrB s0 sa sv 8 letF :=
  h.strc (f := letB) (by decide) (List.mem_of_getElem? (i := 1775) (by decide +kernel)) (fl_mem 978 (by decide +kernel)) (fl_mem 979 (by decide +kernel)) (fl_mem 980 (by decide +kernel)) (fl_mem 981 (by decide +kernel)) (fun j hj => fl_mem (982 + j) (by
    rcases (by omega : j = 0 ∨ j = 1 ∨ j = 2 ∨ j = 3 ∨ j = 4 ∨ j = 5 ∨ j = 6 ∨ j = 7) with rfl | rfl | rfl | rfl | rfl | rfl | rfl | rfl <;> decide +kernel))
