/-! the frame: a heap seen as a function on addresses; contracts and rows over it -/
def WT : List Cond := lw_tbl.filter goodWord
theorem wt_mem {w : Cond} (i : Nat) (h : lw_tbl[i]? = some w) (g : goodWord w = true) : w ∈ WT := List.mem_filter.mpr ⟨List.mem_of_getElem? h, g⟩
theorem wt_good {w : Cond} (h : w ∈ WT) : w ∈ WT ∧ ((w.onTables && w.keeps) = true ∨ ∃ ty, w = .arrayClass ty) := ⟨h, good_of_word (List.mem_filter.mp h).2⟩
theorem wt_in {c : Cond} (h : c ∈ WT) : GoodIn WT (c :: WT) := fun w hw => (List.mem_cons.mp hw).elim (fun e => by rw [e]; exact wt_good h) wt_good
theorem wt_V {own C : String} {i : Nat} {y : MethodName} {c : Cond} (h1 : Cond.methodLink own i y ∈ WT) (h2 : Cond.instanceMethod y ∈ WT) (h3 : Cond.selects C y y ∈ WT) (h4 : Cond.initialized C ∈ WT) (h5 : c ∈ WT) : GoodIn WT (wsV own i C y (c :: WT)) := by
  intro w hw
  unfold wsV at hw
  rcases List.mem_append.mp hw with h | h
  · simp only [List.mem_cons, List.not_mem_nil, or_false] at h
    rcases h with rfl | rfl | rfl | rfl
    · exact wt_good h1
    · exact wt_good h2
    · exact wt_good h3
    · exact wt_good h4
  · exact wt_in h5 w h
theorem wt_S {own : String} {i : Nat} {y : MethodName} {c : Cond} (h1 : Cond.methodLink own i y ∈ WT) (h2 : Cond.static y ∈ WT) (h4 : Cond.initialized own ∈ WT) (h5 : c ∈ WT) : GoodIn WT (wsS own i y (c :: WT)) := by
  intro w hw
  unfold wsS at hw
  rcases List.mem_append.mp hw with h | h
  · simp only [List.mem_cons, List.not_mem_nil, or_false] at h
    rcases h with rfl | rfl | rfl
    · exact wt_good h1
    · exact wt_good h2
    · exact wt_good h4
  · exact wt_in h5 w h
abbrev cls9 : List vw_C := [(RX0, TX0, 4), (RX1, TX1, 8), (RX2, TX2, 3), (RX3, TX3, 9), (RX4, TX4, 3), (RX5, TX5, 13), (RX6, TX6, 2), (RX7, TX7, 9), (RJ4, TJ4, 4)]
/-- a cell: an object (its class's place in cls9, its fields) or an array (type, length, contents) -/
abbrev EC : Type := (Nat × List Value) ⊕ (FieldType × Nat × (Nat → Value))
abbrev GH : Type := Nat → Option EC
def ev_at (D : va_G) (U : State) (a : Nat) (c : EC) (H : Heap) : Prop := match c with
  | .inl o => ∃ r : vw_C, cls9[o.1]? = some r ∧ t_OB a (D.1 o.1) r.2.2 (D.2 o.1) H (vp_V o.2)
  | .inr x => ∃ cA : ClassId, H[a]? = some (arrV cA x.2.1 x.2.2) ∧ ArrOfT U cA x.1 ∧ va_RA U cA x.1
theorem ev_at.moved {D : va_G} {u U : State} {a : Nat} {c : EC} {H : Heap} (hvm : u.vm.Alike U.vm) (h : ev_at D u a c H) : ev_at D U a c H := by
  cases c with
  | inl o => exact h
  | inr x =>
    obtain ⟨cA, h1, h2, h3⟩ := h
    exact ⟨cA, h1, arrOfT_moved hvm h2, h3.moved hvm⟩
theorem ev_at.kept {D : va_G} {U : State} {a : Nat} {c : EC} {H H1 : Heap} (h : ev_at D U a c H) (hq : H1[a]? = H[a]?) : ev_at D U a c H1 := by
  cases c with
  | inl o =>
    obtain ⟨r, h1, h2⟩ := h
    exact ⟨r, h1, h2.kept hq⟩
  | inr x =>
    obtain ⟨cA, h1, h2, h3⟩ := h
    exact ⟨cA, by rw [hq]; exact h1, h2, h3⟩
theorem ev_at.lt {D : va_G} {U : State} {a : Nat} {c : EC} {H : Heap} (h : ev_at D U a c H) : a < H.size := by
  cases c with
  | inl o =>
    obtain ⟨r, h1, cell, h2, -⟩ := h
    exact (Array.getElem?_eq_some_iff.mp h2).1
  | inr x =>
    obtain ⟨cA, h1, -⟩ := h
    exact (Array.getElem?_eq_some_iff.mp h1).1
def Emb (D : va_G) (B : Nat) (U : State) (G : GH) (H : Heap) : Prop := ∀ (a : Nat) (c : EC), G a = some c → B ≤ a ∧ ev_at D U a c H
theorem Emb.moved {D : va_G} {B : Nat} {u U : State} {G : GH} {H : Heap} (hvm : u.vm.Alike U.vm) (h : Emb D B u G H) : Emb D B U G H := fun a c ha => ⟨(h a c ha).1, (h a c ha).2.moved hvm⟩
def gset (G : GH) (a : Nat) (c : EC) : GH := fun j => if j = a then some c else G j
theorem Emb.set {D : va_G} {B : Nat} {U : State} {G : GH} {H H1 : Heap} {a : Nat} {c : EC} (h : Emb D B U G H) (hB : B ≤ a) (hc : ev_at D U a c H1) (oq : ∀ q : Nat, q ≠ a → H1[q]? = H[q]?) : Emb D B U (gset G a c) H1 := by
  intro q e hq
  unfold gset at hq
  by_cases hqa : q = a
  · subst hqa
    rw [if_pos rfl] at hq
    cases hq
    exact ⟨hB, hc⟩
  · rw [if_neg hqa] at hq
    exact ⟨(h q e hq).1, (h q e hq).2.kept (oq q hqa)⟩
theorem Emb.new {D : va_G} {B : Nat} {U : State} {G : GH} {H H1 : Heap} {c : EC} (h : Emb D B U G H) (hB : B ≤ H.size) (hc : ev_at D U H.size c H1) (oq : ∀ q : Nat, q < H.size → H1[q]? = H[q]?) : Emb D B U (gset G H.size c) H1 := by
  intro q e hq
  unfold gset at hq
  by_cases hqa : q = H.size
  · subst hqa
    rw [if_pos rfl] at hq
    cases hq
    exact ⟨hB, hc⟩
  · rw [if_neg hqa] at hq
    exact ⟨(h q e hq).1, (h q e hq).2.kept (oq q (h q e hq).2.lt)⟩
theorem Emb.fresh {D : va_G} {B : Nat} {U : State} {G : GH} {H : Heap} (h : Emb D B U G H) : G H.size = none := by
  cases hg : G H.size with
  | none => rfl
  | some c => exact absurd (h _ c hg).2.lt (Nat.lt_irrefl _)
/-- what the Statement gives of the law's start -/
def S0 (s0 : State) : Prop := ∃ b : Nat, (∀ w ∈ lw_tbl, w.before #[Value.ref b] s0 = true) ∧ (Jvm.Cond.and given_1 narrow_1).before #[Value.ref b] s0 = true
theorem S0.nw {s0 : State} (h : S0 s0) {w : Cond} (hw : w ∈ lw_tbl) (ho : w.onTables = true) : va_Nw w s0 := by
  obtain ⟨b, h1, -⟩ := h
  exact va_Nw.of ho (h1 w hw)
def Fr (s0 U : State) (H : Heap) : Prop := S0 s0 ∧ s0.WarmedH U.vm ∧ s0.heap.size ≤ H.size ∧ ∀ q : Nat, q < s0.heap.size → H[q]? = s0.heap[q]?
def rmd (d mc ms : Nat) : Room := { frames := d + 5, cells := mc, slots := ms, locals := 35 * d + 120 }
abbrev bA (s0 : State) : Nat → Prop := fun q => s0.heap.size ≤ q
def QcV (D : va_G) (s0 : State) (Post : Option Value → GH → Prop) : Array Value → State → Outcome → State → Prop := fun _ st o t => ∃ (rv : Option Value) (G' : GH), o = .returned rv ∧ Post rv G' ∧ Emb D s0.heap.size t G' t.heap ∧ va_F (bA s0) st t
def XcV (D : va_G) (s0 : State) (PX : String → GH → Prop) : String → State → State → Prop := fun E st t => ∃ G' : GH, PX E G' ∧ Emb D s0.heap.size t G' t.heap ∧ va_F (bA s0) st t
def PcV (D : va_G) (s0 : State) (as : List Value) (G : GH) : Array Value → State → Prop := fun v U => v = as.toArray ∧ Fr s0 U U.heap ∧ va_K D cls9 [] U ∧ Emb D s0.heap.size U G U.heap
def Cx (D : va_G) (s0 : State) (own mn : String) (cc : ByteArray) (nL : Nat) (ret : Option FieldType) (hh : List (Nat × Nat × Nat × Nat)) (p : Program) (s : State) (m : MethodId) (args : Array Value) (meth : Method) (c : Code) : Prop :=
  p.tables.exec = Jvm.exec ∧ c.code = cc ∧ c.maxLocals = nL ∧ meth.sig.returnType = ret ∧ s.vm.findClass own = some m.cls ∧ (∀ w ∈ WT, w.before args s = true) ∧ meth.locks = false ∧ meth.name = mn ∧ c.exceptionTable.toList = tableOf hh ∧ Fr s0 s s.heap ∧ va_K D cls9 [] s
abbrev ZT : Type := List Frame → Array Value → State → State → Prop
/-- the machine at pc, with the locals lo, the stack st, the heap G: it comes to Z -/
def V (D : va_G) (s0 : State) (own mn : String) (cc : ByteArray) (nL : Nat) (ret : Option FieldType) (hh : List (Nat × Nat × Nat × Nat)) (l : Launch) (R : Room) (Z : ZT) (pc : Nat) (lo : List (Nat × Value)) (st : List Value) (G : GH) (cells slots : Nat) : Prop :=
  ∀ (p : Program) (e : Env) (s : State) (m : MethodId) (args : Array Value) (below : List Frame) (meth : Method) (c : Code) (H : Heap) (locs : List Loc) (ls : Array Slot), Cx D s0 own mn cc nL ret hh p s m args meth c → va_S (bA s0) s.heap H locs → Emb D s0.heap.size s G H → lv_has ls nL lo →
    W p l e R s m args below meth c H locs cells slots (Z below args s) (F0 m pc ls st)
/-- the same with an exception of the class E under way -/
def VX (D : va_G) (s0 : State) (own mn : String) (cc : ByteArray) (nL : Nat) (ret : Option FieldType) (hh : List (Nat × Nat × Nat × Nat)) (l : Launch) (R : Room) (Z : ZT) (pc : Nat) (lo : List (Nat × Value)) (st : List Value) (E : String) (G : GH) (cells slots : Nat) : Prop :=
  ∀ (p : Program) (e : Env) (s : State) (m : MethodId) (args : Array Value) (below : List Frame) (meth : Method) (c : Code) (H : Heap) (locs : List Loc) (ls : Array Slot) (q : Addr) (ce : Cell), Cx D s0 own mn cc nL ret hh p s m args meth c → va_S (bA s0) s.heap H locs → Emb D s0.heap.size s G H → lv_has ls nL lo → H[q]? = some ce → ce.vm = .none → s.vm.findClass E = some ce.cls →
    vx_W p l e R s m args below meth c H locs cells slots (Z below args s) (F0 m pc ls st) q
def Zm (D : va_G) (s0 : State) (mc ms : Nat) (Post : Option Value → GH → Prop) (PX : String → GH → Prop) : ZT := fun below args s => vx_MQ below (QcV D s0 Post) (XcV D s0 PX) args s mc ms (bA s0)
/-- a method's contract: on these arguments, in this heap, it returns (Post) or throws (PX) -/
def Tri (D : va_G) (s0 : State) (l : Launch) (y : MethodName) (cc : ByteArray) (nL : Nat) (ret : Option FieldType) (d mc ms : Nat) (as : List Value) (G : GH) (Post : Option Value → GH → Prop) (PX : String → GH → Prop) : Prop :=
  vx_Met l y (.code y cc nL ret :: WT) (rmd d mc ms) (PcV D s0 as G) (QcV D s0 Post) (XcV D s0 PX) mc ms (bA s0)
def noX : String → GH → Prop := fun _ _ => False
theorem Tri.weaken {D : va_G} {s0 : State} {l : Launch} {y : MethodName} {cc : ByteArray} {nL : Nat} {ret : Option FieldType} {d mc ms : Nat} {as : List Value} {G : GH} {Post Post' : Option Value → GH → Prop} {PX PX' : String → GH → Prop} (h : Tri D s0 l y cc nL ret d mc ms as G Post PX) (h1 : ∀ rv G', Post rv G' → Post' rv G') (h2 : ∀ E G', PX E G' → PX' E G') : Tri D s0 l y cc nL ret d mc ms as G Post' PX' := by
  intro p e ha hc hk s m args below hf happ hP hK
  obtain ⟨k, o, e1, e2, e3, hq⟩ := h p e ha hc hk s m args below hf happ hP hK
  refine ⟨k, o, e1, e2, e3, ?_⟩
  rcases hq with ⟨⟨rv, G', g1, g2, g3⟩, hq2⟩ | ⟨q, g1, E, ce, L, ⟨G', x1, x2⟩, x3⟩
  · exact Or.inl ⟨⟨rv, G', g1, h1 _ _ g2, g3⟩, hq2⟩
  · exact Or.inr ⟨q, g1, E, ce, L, ⟨G', h2 _ _ x1, x2⟩, x3⟩
theorem pc_blind {D : va_G} {s0 : State} {as : List Value} {G : GH} : FrameBlind (PcV D s0 as G) := fun a U g mk h => by
  obtain ⟨h1, h2, h3, h4⟩ := h
  exact ⟨h1, h2, va_K.moved (u := U) (U := U.calling g mk a) (Vm.Alike.refl U.vm) h3, Emb.moved (u := U) (U := U.calling g mk a) (Vm.Alike.refl U.vm) h4⟩
theorem Fr.go {s0 s U : State} {H : Heap} {locs : List Loc} (hF : Fr s0 s s.heap) (hS : va_S (bA s0) s.heap H locs) (hW : s.WarmedH U.vm) (hU : U.heap = H) : Fr s0 U U.heap := by
  refine ⟨hF.1, State.WarmedH.trans hF.2.1 hW, by rw [hU]; exact Nat.le_trans hF.2.2.1 hS.1, fun q hq => ?_⟩
  rw [hU, hS.2.1 q (Nat.lt_of_lt_of_le hq hF.2.2.1) (Nat.not_le.mpr hq)]
  exact hF.2.2.2 q hq

section VR
variable {D : va_G} {s0 : State} {own mn : String} {cc : ByteArray} {nL : Nat} {ret : Option FieldType} {hh : List (Nat × Nat × Nat × Nat)} {l : Launch} {R : Room} {Z : ZT} {pc : Nat} {lo : List (Nat × Value)} {st : List Value} {G : GH} {cells slots : Nat}

theorem Tri.ofV {y : MethodName} {d mc ms : Nat} {as : List Value} {Post : Option Value → GH → Prop} {PX : String → GH → Prop} (hy : plainName y.cls = true) (hc : y.cls = own) (hn : y.name = mn) (hlen : (lg_sl as).length ≤ nL) (k : V D s0 own mn cc nL ret [] l (rmd d mc ms) (Zm D s0 mc ms Post PX) 0 (lv_args 0 as) [] G 0 0) : Tri D s0 l y cc nL ret d mc ms as G Post PX := by
  refine vx_ofW (cc := cc) (maxL := nL) (ret := ret) hy rfl ?_
  intro p e s m args below meth c s₁ B hml htab hv
  obtain ⟨rfl, hF, hK, hE⟩ := hv
  have hts := atoms_spec (ws := .code y cc nL ret :: WT) B.pre
  have hown : s.vm.findClass y.cls = some m.cls := findClass_of_methodNamed B.named
  have hnm := (name_of_methodNamed B.named B.method).1
  have ht : c.exceptionTable.toList = tableOf [] := by
    cases hq : c.exceptionTable.toList with
    | nil => rfl
    | cons x xs => exact absurd (by rw [hq]; exact List.mem_cons_self) (htab x)
  rw [lg_entry_eq]
  exact k p e s m _ below meth c s.heap [] _ ⟨B.exec, B.bytes, hml, B.returns, hc ▸ hown, fun w hw => hts w (List.mem_cons_of_mem _ hw), B.notSynchronized, hnm.trans hn, ht, hF, hK⟩ va_S.rf hE (lv_entry as hlen)
/-- the value of a local -/
def lk : List (Nat × Value) → Nat → Option Value
  | [], _ => none
  | q :: l, i => if q.1 = i then some q.2 else lk l i
theorem lk_has {ls : Array Slot} {n : Nat} {lo : List (Nat × Value)} (h : lv_has ls n lo) {i : Nat} {v : Value} (hk : lk lo i = some v) : ls[i]? = some (.val v) := by
  have key : ∀ l : List (Nat × Value), lk l i = some v → (i, v) ∈ l := by
    intro l
    induction l with
    | nil => intro h; cases h
    | cons q l ih =>
      intro h
      unfold lk at h
      by_cases e : q.1 = i
      · rw [if_pos e] at h
        cases h
        subst e
        exact List.mem_cons_self
      · rw [if_neg e] at h
        exact List.mem_cons_of_mem _ (ih h)
  exact h.2.2 (i, v) (key lo hk)
def ls1 (lo : List (Nat × Value)) (i : Nat) (v : Value) : List (Nat × Value) := (i, v) :: lo.filter (fun q => !(q.1 == i) && !(q.1 + 1 == i && q.2.category == 2))
def ls2 (lo : List (Nat × Value)) (i : Nat) (v : Value) : List (Nat × Value) := (i, v) :: lo.filter (fun q => !(q.1 == i) && (!(q.1 == i + 1) && !(q.1 + 1 == i && q.2.category == 2)))
/-- fewer locals are known -/
theorem V.lsub {lo lo' : List (Nat × Value)} (h : ∀ q ∈ lo', q ∈ lo) (k : V D s0 own mn cc nL ret hh l R Z pc lo' st G cells slots) : V D s0 own mn cc nL ret hh l R Z pc lo st G cells slots := fun p e s m args below meth c H locs ls C hS hE hl => k p e s m args below meth c H locs ls C hS hE ⟨hl.1, hl.2.1, fun q hq => hl.2.2 q (h q hq)⟩
theorem V.eqG {G' : GH} (h : G = G') (k : V D s0 own mn cc nL ret hh l R Z pc lo st G' cells slots) : V D s0 own mn cc nL ret hh l R Z pc lo st G cells slots := h ▸ k
theorem V.eqst {st' : List Value} (h : st = st') (k : V D s0 own mn cc nL ret hh l R Z pc lo st' G cells slots) : V D s0 own mn cc nL ret hh l R Z pc lo st G cells slots := h ▸ k
theorem V.wid {k n : Nat} (h1 : cells ≤ k) (h2 : slots ≤ n) (kk : V D s0 own mn cc nL ret hh l R Z pc lo st G k n) : V D s0 own mn cc nL ret hh l R Z pc lo st G cells slots := fun p e s m args below meth c H locs ls C hS hE hl => W.widen h1 h2 (kk p e s m args below meth c H locs ls C hS hE hl)

theorem V_iconst {n : Int} {v : Int32} (hdg : decode cc pc = .ok (.iconst n, 1)) (hv : Int32.ofInt n = v) (k : V D s0 own mn cc nL ret hh l R Z (pc + 1) lo (.int v :: st) G cells slots) : V D s0 own mn cc nL ret hh l R Z pc lo st G cells slots := fun p e s m args below meth c H locs ls C hS hE hl => lv_iconst C.1 C.2.1 hdg hv (k p e s m args below meth c H locs ls C hS hE hl)
theorem V_bipush {n : Int} {v : Int32} (hdg : decode cc pc = .ok (.bipush n, 2)) (hv : (Int8.ofInt n).toInt32 = v) (k : V D s0 own mn cc nL ret hh l R Z (pc + 2) lo (.int v :: st) G cells slots) : V D s0 own mn cc nL ret hh l R Z pc lo st G cells slots := fun p e s m args below meth c H locs ls C hS hE hl => lv_bipush C.1 C.2.1 hdg hv (k p e s m args below meth c H locs ls C hS hE hl)
theorem V_sipush {n : Int} {v : Int32} (hdg : decode cc pc = .ok (.sipush n, 3)) (hv : (Int16.ofInt n).toInt32 = v) (k : V D s0 own mn cc nL ret hh l R Z (pc + 3) lo (.int v :: st) G cells slots) : V D s0 own mn cc nL ret hh l R Z pc lo st G cells slots := fun p e s m args below meth c H locs ls C hS hE hl => lv_sipush C.1 C.2.1 hdg hv (k p e s m args below meth c H locs ls C hS hE hl)
theorem V_lconst {n : Fin 2} {v : Int64} (hdg : decode cc pc = .ok (.lconst n, 1)) (hv : Int64.ofNat (n : Nat) = v) (k : V D s0 own mn cc nL ret hh l R Z (pc + 1) lo (.long v :: st) G cells slots) : V D s0 own mn cc nL ret hh l R Z pc lo st G cells slots := fun p e s m args below meth c H locs ls C hS hE hl => lv_lconst C.1 C.2.1 hdg hv (k p e s m args below meth c H locs ls C hS hE hl)
theorem V_fconst0 (hdg : decode cc pc = .ok (.fconst 0, 1)) (k : V D s0 own mn cc nL ret hh l R Z (pc + 1) lo (.float FP.fconst0 :: st) G cells slots) : V D s0 own mn cc nL ret hh l R Z pc lo st G cells slots := fun p e s m args below meth c H locs ls C hS hE hl => lv_fconst0 C.1 C.2.1 hdg (k p e s m args below meth c H locs ls C hS hE hl)
theorem V_dconst0 (hdg : decode cc pc = .ok (.dconst 0, 1)) (k : V D s0 own mn cc nL ret hh l R Z (pc + 1) lo (.double FP.dconst0 :: st) G cells slots) : V D s0 own mn cc nL ret hh l R Z pc lo st G cells slots := fun p e s m args below meth c H locs ls C hS hE hl => lv_dconst0 C.1 C.2.1 hdg (k p e s m args below meth c H locs ls C hS hE hl)
theorem V_null (hdg : decode cc pc = .ok (.aconst_null, 1)) (k : V D s0 own mn cc nL ret hh l R Z (pc + 1) lo (.null :: st) G cells slots) : V D s0 own mn cc nL ret hh l R Z pc lo st G cells slots := fun p e s m args below meth c H locs ls C hS hE hl => lv_null C.1 C.2.1 hdg (k p e s m args below meth c H locs ls C hS hE hl)
theorem V_iload_n {k9 : Fin 4} {i : Nat} {x : Int32} (hdg : decode cc pc = .ok (.iload_n k9, 1)) (hi : (k9 : Nat) = i) (h : lk lo i = some (.int x)) (k : V D s0 own mn cc nL ret hh l R Z (pc + 1) lo (.int x :: st) G cells slots) : V D s0 own mn cc nL ret hh l R Z pc lo st G cells slots := fun p e s m args below meth c H locs ls C hS hE hl => lv_iload_n C.1 C.2.1 hdg hi (lk_has hl h) (k p e s m args below meth c H locs ls C hS hE hl)
theorem V_iload {i : Nat} {x : Int32} (hdg : decode cc pc = .ok (.iload i, 2)) (h : lk lo i = some (.int x)) (k : V D s0 own mn cc nL ret hh l R Z (pc + 2) lo (.int x :: st) G cells slots) : V D s0 own mn cc nL ret hh l R Z pc lo st G cells slots := fun p e s m args below meth c H locs ls C hS hE hl => lv_iload C.1 C.2.1 hdg (lk_has hl h) (k p e s m args below meth c H locs ls C hS hE hl)
theorem V_fload_n {k9 : Fin 4} {i : Nat} {x : UInt32} (hdg : decode cc pc = .ok (.fload_n k9, 1)) (hi : (k9 : Nat) = i) (h : lk lo i = some (.float x)) (k : V D s0 own mn cc nL ret hh l R Z (pc + 1) lo (.float x :: st) G cells slots) : V D s0 own mn cc nL ret hh l R Z pc lo st G cells slots := fun p e s m args below meth c H locs ls C hS hE hl => lv_fload_n C.1 C.2.1 hdg hi (lk_has hl h) (k p e s m args below meth c H locs ls C hS hE hl)
theorem V_fload {i : Nat} {x : UInt32} (hdg : decode cc pc = .ok (.fload i, 2)) (h : lk lo i = some (.float x)) (k : V D s0 own mn cc nL ret hh l R Z (pc + 2) lo (.float x :: st) G cells slots) : V D s0 own mn cc nL ret hh l R Z pc lo st G cells slots := fun p e s m args below meth c H locs ls C hS hE hl => lv_fload C.1 C.2.1 hdg (lk_has hl h) (k p e s m args below meth c H locs ls C hS hE hl)
theorem V_dload_n {k9 : Fin 4} {i : Nat} {x : UInt64} (hdg : decode cc pc = .ok (.dload_n k9, 1)) (hi : (k9 : Nat) = i) (h : lk lo i = some (.double x)) (k : V D s0 own mn cc nL ret hh l R Z (pc + 1) lo (.double x :: st) G cells slots) : V D s0 own mn cc nL ret hh l R Z pc lo st G cells slots := fun p e s m args below meth c H locs ls C hS hE hl => lv_dload_n C.1 C.2.1 hdg hi (lk_has hl h) (k p e s m args below meth c H locs ls C hS hE hl)
theorem V_dload {i : Nat} {x : UInt64} (hdg : decode cc pc = .ok (.dload i, 2)) (h : lk lo i = some (.double x)) (k : V D s0 own mn cc nL ret hh l R Z (pc + 2) lo (.double x :: st) G cells slots) : V D s0 own mn cc nL ret hh l R Z pc lo st G cells slots := fun p e s m args below meth c H locs ls C hS hE hl => lv_dload C.1 C.2.1 hdg (lk_has hl h) (k p e s m args below meth c H locs ls C hS hE hl)
theorem V_aload_n {k9 : Fin 4} {i : Nat} {x : Nat} (hdg : decode cc pc = .ok (.aload_n k9, 1)) (hi : (k9 : Nat) = i) (h : lk lo i = some (.ref x)) (k : V D s0 own mn cc nL ret hh l R Z (pc + 1) lo (.ref x :: st) G cells slots) : V D s0 own mn cc nL ret hh l R Z pc lo st G cells slots := fun p e s m args below meth c H locs ls C hS hE hl => lv_aload_n C.1 C.2.1 hdg hi (lk_has hl h) (k p e s m args below meth c H locs ls C hS hE hl)
theorem V_aload {i : Nat} {x : Nat} (hdg : decode cc pc = .ok (.aload i, 2)) (h : lk lo i = some (.ref x)) (k : V D s0 own mn cc nL ret hh l R Z (pc + 2) lo (.ref x :: st) G cells slots) : V D s0 own mn cc nL ret hh l R Z pc lo st G cells slots := fun p e s m args below meth c H locs ls C hS hE hl => lv_aload C.1 C.2.1 hdg (lk_has hl h) (k p e s m args below meth c H locs ls C hS hE hl)
theorem V_aload_nN {k9 : Fin 4} {i : Nat} (hdg : decode cc pc = .ok (.aload_n k9, 1)) (hi : (k9 : Nat) = i) (h : lk lo i = some .null) (k : V D s0 own mn cc nL ret hh l R Z (pc + 1) lo (.null :: st) G cells slots) : V D s0 own mn cc nL ret hh l R Z pc lo st G cells slots := fun p e s m args below meth c H locs ls C hS hE hl => lv_aload_nN C.1 C.2.1 hdg hi (lk_has hl h) (k p e s m args below meth c H locs ls C hS hE hl)
theorem V_aloadN {i : Nat} (hdg : decode cc pc = .ok (.aload i, 2)) (h : lk lo i = some .null) (k : V D s0 own mn cc nL ret hh l R Z (pc + 2) lo (.null :: st) G cells slots) : V D s0 own mn cc nL ret hh l R Z pc lo st G cells slots := fun p e s m args below meth c H locs ls C hS hE hl => lv_aloadN C.1 C.2.1 hdg (lk_has hl h) (k p e s m args below meth c H locs ls C hS hE hl)
theorem V_istore_n {k9 : Fin 4} {i : Nat} {x : Int32} (hdg : decode cc pc = .ok (.istore_n k9, 1)) (hi : (k9 : Nat) = i) (hn : i < nL) (k : V D s0 own mn cc nL ret hh l R Z (pc + 1) (ls1 lo i (.int x)) st G cells slots) : V D s0 own mn cc nL ret hh l R Z pc lo (.int x :: st) G cells slots := fun p e s m args below meth c H locs ls C hS hE hl => lv_istore_n C.1 C.2.1 hdg hi hl hn rfl (fun ls9 hl9 => k p e s m args below meth c H locs ls9 C hS hE hl9)
theorem V_istore {i : Nat} {x : Int32} (hdg : decode cc pc = .ok (.istore i, 2)) (hn : i < nL) (k : V D s0 own mn cc nL ret hh l R Z (pc + 2) (ls1 lo i (.int x)) st G cells slots) : V D s0 own mn cc nL ret hh l R Z pc lo (.int x :: st) G cells slots := fun p e s m args below meth c H locs ls C hS hE hl => lv_istore C.1 C.2.1 hdg hl hn rfl (fun ls9 hl9 => k p e s m args below meth c H locs ls9 C hS hE hl9)
theorem V_fstore {i : Nat} {x : UInt32} (hdg : decode cc pc = .ok (.fstore i, 2)) (hn : i < nL) (k : V D s0 own mn cc nL ret hh l R Z (pc + 2) (ls1 lo i (.float x)) st G cells slots) : V D s0 own mn cc nL ret hh l R Z pc lo (.float x :: st) G cells slots := fun p e s m args below meth c H locs ls C hS hE hl => lv_fstore C.1 C.2.1 hdg hl hn rfl (fun ls9 hl9 => k p e s m args below meth c H locs ls9 C hS hE hl9)
theorem V_astore_n {k9 : Fin 4} {i : Nat} {x : Nat} (hdg : decode cc pc = .ok (.astore_n k9, 1)) (hi : (k9 : Nat) = i) (hn : i < nL) (k : V D s0 own mn cc nL ret hh l R Z (pc + 1) (ls1 lo i (.ref x)) st G cells slots) : V D s0 own mn cc nL ret hh l R Z pc lo (.ref x :: st) G cells slots := fun p e s m args below meth c H locs ls C hS hE hl => lv_astore_n C.1 C.2.1 hdg hi hl hn rfl (fun ls9 hl9 => k p e s m args below meth c H locs ls9 C hS hE hl9)
theorem V_astore {i : Nat} {x : Nat} (hdg : decode cc pc = .ok (.astore i, 2)) (hn : i < nL) (k : V D s0 own mn cc nL ret hh l R Z (pc + 2) (ls1 lo i (.ref x)) st G cells slots) : V D s0 own mn cc nL ret hh l R Z pc lo (.ref x :: st) G cells slots := fun p e s m args below meth c H locs ls C hS hE hl => lv_astore C.1 C.2.1 hdg hl hn rfl (fun ls9 hl9 => k p e s m args below meth c H locs ls9 C hS hE hl9)
theorem V_astore_nN {k9 : Fin 4} {i : Nat} (hdg : decode cc pc = .ok (.astore_n k9, 1)) (hi : (k9 : Nat) = i) (hn : i < nL) (k : V D s0 own mn cc nL ret hh l R Z (pc + 1) (ls1 lo i (.null)) st G cells slots) : V D s0 own mn cc nL ret hh l R Z pc lo (.null :: st) G cells slots := fun p e s m args below meth c H locs ls C hS hE hl => lv_astore_nN C.1 C.2.1 hdg hi hl hn rfl (fun ls9 hl9 => k p e s m args below meth c H locs ls9 C hS hE hl9)
theorem V_astoreN {i : Nat} (hdg : decode cc pc = .ok (.astore i, 2)) (hn : i < nL) (k : V D s0 own mn cc nL ret hh l R Z (pc + 2) (ls1 lo i (.null)) st G cells slots) : V D s0 own mn cc nL ret hh l R Z pc lo (.null :: st) G cells slots := fun p e s m args below meth c H locs ls C hS hE hl => lv_astoreN C.1 C.2.1 hdg hl hn rfl (fun ls9 hl9 => k p e s m args below meth c H locs ls9 C hS hE hl9)
theorem V_dstore {i : Nat} {x : UInt64} (hdg : decode cc pc = .ok (.dstore i, 2)) (hn : i + 1 < nL) (k : V D s0 own mn cc nL ret hh l R Z (pc + 2) (ls2 lo i (.double x)) st G cells slots) : V D s0 own mn cc nL ret hh l R Z pc lo (.double x :: st) G cells slots := fun p e s m args below meth c H locs ls C hS hE hl => lv_dstore C.1 C.2.1 hdg hl hn rfl (fun ls9 hl9 => k p e s m args below meth c H locs ls9 C hS hE hl9)
theorem V_iinc {i : Nat} {n : Int} {x v : Int32} (hdg : decode cc pc = .ok (.iinc i n, 3)) (h : lk lo i = some (.int x)) (hv : x + Int32.ofInt n = v) (hn : i < nL) (k : V D s0 own mn cc nL ret hh l R Z (pc + 3) (ls1 lo i (.int v)) st G cells slots) : V D s0 own mn cc nL ret hh l R Z pc lo st G cells slots := by
  intro p e s m args below meth c H locs ls C hS hE hl
  have hg := lk_has hl h
  have h9 : lv_has ls nL ((i, .int x) :: lo) := ⟨hl.1, hl.2.1, fun q hq => (List.mem_cons.mp hq).elim (fun e => by rw [e]; exact hg) (hl.2.2 q)⟩
  refine lv_iinc C.1 C.2.1 hdg h9 (k := 0) rfl hv hn rfl (fun ls9 hl9 => k p e s m args below meth c H locs ls9 C hS hE ⟨hl9.1, hl9.2.1, fun q hq => hl9.2.2 q ?_⟩)
  rcases List.mem_cons.mp hq with e | e
  · rw [e]; exact List.mem_cons_self
  · refine List.mem_cons_of_mem _ ?_
    have e2 := List.mem_filter.mp e
    exact List.mem_filter.mpr ⟨List.mem_cons_of_mem _ e2.1, e2.2⟩
theorem V_iadd {x y : Int32} (hdg : decode cc pc = .ok (.iadd, 1)) (k : V D s0 own mn cc nL ret hh l R Z (pc + 1) lo (.int (x + y) :: st) G cells slots) : V D s0 own mn cc nL ret hh l R Z pc lo (.int y :: .int x :: st) G cells slots := fun p e s m args below meth c H locs ls C hS hE hl => lv_iadd C.1 C.2.1 hdg (k p e s m args below meth c H locs ls C hS hE hl)
theorem V_isub {x y : Int32} (hdg : decode cc pc = .ok (.isub, 1)) (k : V D s0 own mn cc nL ret hh l R Z (pc + 1) lo (.int (x - y) :: st) G cells slots) : V D s0 own mn cc nL ret hh l R Z pc lo (.int y :: .int x :: st) G cells slots := fun p e s m args below meth c H locs ls C hS hE hl => lv_isub C.1 C.2.1 hdg (k p e s m args below meth c H locs ls C hS hE hl)
theorem V_imul {x y : Int32} (hdg : decode cc pc = .ok (.imul, 1)) (k : V D s0 own mn cc nL ret hh l R Z (pc + 1) lo (.int (x * y) :: st) G cells slots) : V D s0 own mn cc nL ret hh l R Z pc lo (.int y :: .int x :: st) G cells slots := fun p e s m args below meth c H locs ls C hS hE hl => lv_imul C.1 C.2.1 hdg (k p e s m args below meth c H locs ls C hS hE hl)
theorem V_iand {x y : Int32} (hdg : decode cc pc = .ok (.iand, 1)) (k : V D s0 own mn cc nL ret hh l R Z (pc + 1) lo (.int (x &&& y) :: st) G cells slots) : V D s0 own mn cc nL ret hh l R Z pc lo (.int y :: .int x :: st) G cells slots := fun p e s m args below meth c H locs ls C hS hE hl => lv_iand C.1 C.2.1 hdg (k p e s m args below meth c H locs ls C hS hE hl)
theorem V_ixor {x y : Int32} (hdg : decode cc pc = .ok (.ixor, 1)) (k : V D s0 own mn cc nL ret hh l R Z (pc + 1) lo (.int (x ^^^ y) :: st) G cells slots) : V D s0 own mn cc nL ret hh l R Z pc lo (.int y :: .int x :: st) G cells slots := fun p e s m args below meth c H locs ls C hS hE hl => lv_ixor C.1 C.2.1 hdg (k p e s m args below meth c H locs ls C hS hE hl)
theorem V_iushr {x y v : Int32} (hdg : decode cc pc = .ok (.iushr, 1)) (hv : (x.toUInt32 >>> (y.toUInt32 &&& Int32.toUInt32 31)).toInt32 = v) (k : V D s0 own mn cc nL ret hh l R Z (pc + 1) lo (.int v :: st) G cells slots) : V D s0 own mn cc nL ret hh l R Z pc lo (.int y :: .int x :: st) G cells slots := fun p e s m args below meth c H locs ls C hS hE hl => lv_iushr C.1 C.2.1 hdg hv (k p e s m args below meth c H locs ls C hS hE hl)
theorem V_idiv {x y : Int32} (hdg : decode cc pc = .ok (.idiv, 1)) (hne : ¬ y = 0) (k : V D s0 own mn cc nL ret hh l R Z (pc + 1) lo (.int (x / y) :: st) G cells slots) : V D s0 own mn cc nL ret hh l R Z pc lo (.int y :: .int x :: st) G cells slots := fun p e s m args below meth c H locs ls C hS hE hl => lv_idiv C.1 C.2.1 hdg hne (k p e s m args below meth c H locs ls C hS hE hl)
theorem V_irem {x y : Int32} (hdg : decode cc pc = .ok (.irem, 1)) (hne : ¬ y = 0) (k : V D s0 own mn cc nL ret hh l R Z (pc + 1) lo (.int (x - x / y * y) :: st) G cells slots) : V D s0 own mn cc nL ret hh l R Z pc lo (.int y :: .int x :: st) G cells slots := fun p e s m args below meth c H locs ls C hS hE hl => lv_irem C.1 C.2.1 hdg hne (k p e s m args below meth c H locs ls C hS hE hl)
theorem V_i2l {x : Int32} {v : Int64} (hdg : decode cc pc = .ok (.i2l, 1)) (hv : x.toInt64 = v) (k : V D s0 own mn cc nL ret hh l R Z (pc + 1) lo (.long v :: st) G cells slots) : V D s0 own mn cc nL ret hh l R Z pc lo (.int x :: st) G cells slots := fun p e s m args below meth c H locs ls C hS hE hl => lv_i2l C.1 C.2.1 hdg hv (k p e s m args below meth c H locs ls C hS hE hl)
theorem V_i2c {x : Int32} {v : Int32} (hdg : decode cc pc = .ok (.i2c, 1)) (hv : (x.toUInt32 % 65536).toInt32 = v) (k : V D s0 own mn cc nL ret hh l R Z (pc + 1) lo (.int v :: st) G cells slots) : V D s0 own mn cc nL ret hh l R Z pc lo (.int x :: st) G cells slots := fun p e s m args below meth c H locs ls C hS hE hl => lv_i2c C.1 C.2.1 hdg hv (k p e s m args below meth c H locs ls C hS hE hl)
theorem V_i2f {x : Int32} (hdg : decode cc pc = .ok (.i2f, 1)) (k : V D s0 own mn cc nL ret hh l R Z (pc + 1) lo (.float (FP.i2f x) :: st) G cells slots) : V D s0 own mn cc nL ret hh l R Z pc lo (.int x :: st) G cells slots := fun p e s m args below meth c H locs ls C hS hE hl => lv_i2f C.1 C.2.1 hdg (k p e s m args below meth c H locs ls C hS hE hl)
theorem V_i2d {x : Int32} (hdg : decode cc pc = .ok (.i2d, 1)) (k : V D s0 own mn cc nL ret hh l R Z (pc + 1) lo (.double (FP.i2d x) :: st) G cells slots) : V D s0 own mn cc nL ret hh l R Z pc lo (.int x :: st) G cells slots := fun p e s m args below meth c H locs ls C hS hE hl => lv_i2d C.1 C.2.1 hdg (k p e s m args below meth c H locs ls C hS hE hl)
theorem V_fdiv {x y : UInt32} (hdg : decode cc pc = .ok (.fdiv, 1)) (hne : vf_n32 (FP.fdiv x y)) (k : V D s0 own mn cc nL ret hh l R Z (pc + 1) lo (.float (FP.fdiv x y) :: st) G cells slots) : V D s0 own mn cc nL ret hh l R Z pc lo (.float y :: .float x :: st) G cells slots := fun p e s m args below meth c H locs ls C hS hE hl => lv_fdiv C.1 C.2.1 hdg hne (k p e s m args below meth c H locs ls C hS hE hl)
theorem V_ddiv {x y : UInt64} (hdg : decode cc pc = .ok (.ddiv, 1)) (hne : vf_n64 (FP.ddiv x y)) (k : V D s0 own mn cc nL ret hh l R Z (pc + 1) lo (.double (FP.ddiv x y) :: st) G cells slots) : V D s0 own mn cc nL ret hh l R Z pc lo (.double y :: .double x :: st) G cells slots := fun p e s m args below meth c H locs ls C hS hE hl => lv_ddiv C.1 C.2.1 hdg hne (k p e s m args below meth c H locs ls C hS hE hl)
theorem V_f2d {x : UInt32} (hdg : decode cc pc = .ok (.f2d, 1)) (hne : vf_n64 (FP.f2d x)) (k : V D s0 own mn cc nL ret hh l R Z (pc + 1) lo (.double (FP.f2d x) :: st) G cells slots) : V D s0 own mn cc nL ret hh l R Z pc lo (.float x :: st) G cells slots := fun p e s m args below meth c H locs ls C hS hE hl => lv_f2d C.1 C.2.1 hdg hne (k p e s m args below meth c H locs ls C hS hE hl)
theorem V_fcmp {x y : UInt32} {op : CmpOp} (hdg : decode cc pc = .ok (.fcmp op, 1)) (k : V D s0 own mn cc nL ret hh l R Z (pc + 1) lo (.int (Op.cmpValue (FP.fcmp x y) op) :: st) G cells slots) : V D s0 own mn cc nL ret hh l R Z pc lo (.float y :: .float x :: st) G cells slots := fun p e s m args below meth c H locs ls C hS hE hl => lv_fcmp C.1 C.2.1 hdg (k p e s m args below meth c H locs ls C hS hE hl)
theorem V_dcmp {x y : UInt64} {op : CmpOp} (hdg : decode cc pc = .ok (.dcmp op, 1)) (k : V D s0 own mn cc nL ret hh l R Z (pc + 1) lo (.int (Op.cmpValue (FP.dcmp x y) op) :: st) G cells slots) : V D s0 own mn cc nL ret hh l R Z pc lo (.double y :: .double x :: st) G cells slots := fun p e s m args below meth c H locs ls C hS hE hl => lv_dcmp C.1 C.2.1 hdg (k p e s m args below meth c H locs ls C hS hE hl)
theorem V_lcmp {x y : Int64} (hdg : decode cc pc = .ok (.lcmp, 1)) (k : V D s0 own mn cc nL ret hh l R Z (pc + 1) lo (.int (lg_cmp x y) :: st) G cells slots) : V D s0 own mn cc nL ret hh l R Z pc lo (.long y :: .long x :: st) G cells slots := fun p e s m args below meth c H locs ls C hS hE hl => W.lcmp C.1 C.2.1 hdg (k p e s m args below meth c H locs ls C hS hE hl)
theorem V_dup {va : Value} (hdg : decode cc pc = .ok (.dup, 1)) (hva : va.category = 1) (k : V D s0 own mn cc nL ret hh l R Z (pc + 1) lo (va :: va :: st) G cells slots) : V D s0 own mn cc nL ret hh l R Z pc lo (va :: st) G cells slots := fun p e s m args below meth c H locs ls C hS hE hl => lv_dup C.1 C.2.1 hdg hva (k p e s m args below meth c H locs ls C hS hE hl)
theorem V_dup2 {va vb : Value} (hdg : decode cc pc = .ok (.dup2, 1)) (hva : va.category = 1) (hvb : vb.category = 1) (k : V D s0 own mn cc nL ret hh l R Z (pc + 1) lo (va :: vb :: va :: vb :: st) G cells slots) : V D s0 own mn cc nL ret hh l R Z pc lo (va :: vb :: st) G cells slots := fun p e s m args below meth c H locs ls C hS hE hl => lv_dup2_11 C.1 C.2.1 hdg hva hvb (k p e s m args below meth c H locs ls C hS hE hl)
theorem V_pop {va : Value} (hdg : decode cc pc = .ok (.pop, 1)) (hva : va.category = 1) (k : V D s0 own mn cc nL ret hh l R Z (pc + 1) lo st G cells slots) : V D s0 own mn cc nL ret hh l R Z pc lo (va :: st) G cells slots := fun p e s m args below meth c H locs ls C hS hE hl => lv_pop C.1 C.2.1 hdg hva (k p e s m args below meth c H locs ls C hS hE hl)
theorem V_if_eq {x : Int32} {off : Int} {tgt : Nat} (hdg : decode cc pc = .ok (.ifCond .eq off, 3)) (ht : (pc : Int) + off = (tgt : Int)) (kt : x = 0 → V D s0 own mn cc nL ret hh l R Z tgt lo st G cells slots) (kf : ¬ x = 0 → V D s0 own mn cc nL ret hh l R Z (pc + 3) lo st G cells slots) : V D s0 own mn cc nL ret hh l R Z pc lo (.int x :: st) G cells slots := fun p e s m args below meth c H locs ls C hS hE hl => lv_if_eq C.1 C.2.1 hdg ht (fun h9 => kt h9 p e s m args below meth c H locs ls C hS hE hl) (fun h9 => kf h9 p e s m args below meth c H locs ls C hS hE hl)
theorem V_icmp_eq {x y : Int32} {off : Int} {tgt : Nat} (hdg : decode cc pc = .ok (.if_icmp .eq off, 3)) (ht : (pc : Int) + off = (tgt : Int)) (kt : x = y → V D s0 own mn cc nL ret hh l R Z tgt lo st G cells slots) (kf : ¬ x = y → V D s0 own mn cc nL ret hh l R Z (pc + 3) lo st G cells slots) : V D s0 own mn cc nL ret hh l R Z pc lo (.int y :: .int x :: st) G cells slots := fun p e s m args below meth c H locs ls C hS hE hl => lv_icmp_eq C.1 C.2.1 hdg ht (fun h9 => kt h9 p e s m args below meth c H locs ls C hS hE hl) (fun h9 => kf h9 p e s m args below meth c H locs ls C hS hE hl)
theorem V_if_ne {x : Int32} {off : Int} {tgt : Nat} (hdg : decode cc pc = .ok (.ifCond .ne off, 3)) (ht : (pc : Int) + off = (tgt : Int)) (kt : ¬ x = 0 → V D s0 own mn cc nL ret hh l R Z tgt lo st G cells slots) (kf : x = 0 → V D s0 own mn cc nL ret hh l R Z (pc + 3) lo st G cells slots) : V D s0 own mn cc nL ret hh l R Z pc lo (.int x :: st) G cells slots := fun p e s m args below meth c H locs ls C hS hE hl => lv_if_ne C.1 C.2.1 hdg ht (fun h9 => kt h9 p e s m args below meth c H locs ls C hS hE hl) (fun h9 => kf h9 p e s m args below meth c H locs ls C hS hE hl)
theorem V_icmp_ne {x y : Int32} {off : Int} {tgt : Nat} (hdg : decode cc pc = .ok (.if_icmp .ne off, 3)) (ht : (pc : Int) + off = (tgt : Int)) (kt : ¬ x = y → V D s0 own mn cc nL ret hh l R Z tgt lo st G cells slots) (kf : x = y → V D s0 own mn cc nL ret hh l R Z (pc + 3) lo st G cells slots) : V D s0 own mn cc nL ret hh l R Z pc lo (.int y :: .int x :: st) G cells slots := fun p e s m args below meth c H locs ls C hS hE hl => lv_icmp_ne C.1 C.2.1 hdg ht (fun h9 => kt h9 p e s m args below meth c H locs ls C hS hE hl) (fun h9 => kf h9 p e s m args below meth c H locs ls C hS hE hl)
theorem V_if_lt {x : Int32} {off : Int} {tgt : Nat} (hdg : decode cc pc = .ok (.ifCond .lt off, 3)) (ht : (pc : Int) + off = (tgt : Int)) (kt : x < 0 → V D s0 own mn cc nL ret hh l R Z tgt lo st G cells slots) (kf : ¬ x < 0 → V D s0 own mn cc nL ret hh l R Z (pc + 3) lo st G cells slots) : V D s0 own mn cc nL ret hh l R Z pc lo (.int x :: st) G cells slots := fun p e s m args below meth c H locs ls C hS hE hl => lv_if_lt C.1 C.2.1 hdg ht (fun h9 => kt h9 p e s m args below meth c H locs ls C hS hE hl) (fun h9 => kf h9 p e s m args below meth c H locs ls C hS hE hl)
theorem V_icmp_lt {x y : Int32} {off : Int} {tgt : Nat} (hdg : decode cc pc = .ok (.if_icmp .lt off, 3)) (ht : (pc : Int) + off = (tgt : Int)) (kt : x < y → V D s0 own mn cc nL ret hh l R Z tgt lo st G cells slots) (kf : ¬ x < y → V D s0 own mn cc nL ret hh l R Z (pc + 3) lo st G cells slots) : V D s0 own mn cc nL ret hh l R Z pc lo (.int y :: .int x :: st) G cells slots := fun p e s m args below meth c H locs ls C hS hE hl => lv_icmp_lt C.1 C.2.1 hdg ht (fun h9 => kt h9 p e s m args below meth c H locs ls C hS hE hl) (fun h9 => kf h9 p e s m args below meth c H locs ls C hS hE hl)
theorem V_if_ge {x : Int32} {off : Int} {tgt : Nat} (hdg : decode cc pc = .ok (.ifCond .ge off, 3)) (ht : (pc : Int) + off = (tgt : Int)) (kt : 0 ≤ x → V D s0 own mn cc nL ret hh l R Z tgt lo st G cells slots) (kf : ¬ 0 ≤ x → V D s0 own mn cc nL ret hh l R Z (pc + 3) lo st G cells slots) : V D s0 own mn cc nL ret hh l R Z pc lo (.int x :: st) G cells slots := fun p e s m args below meth c H locs ls C hS hE hl => lv_if_ge C.1 C.2.1 hdg ht (fun h9 => kt h9 p e s m args below meth c H locs ls C hS hE hl) (fun h9 => kf h9 p e s m args below meth c H locs ls C hS hE hl)
theorem V_icmp_ge {x y : Int32} {off : Int} {tgt : Nat} (hdg : decode cc pc = .ok (.if_icmp .ge off, 3)) (ht : (pc : Int) + off = (tgt : Int)) (kt : y ≤ x → V D s0 own mn cc nL ret hh l R Z tgt lo st G cells slots) (kf : ¬ y ≤ x → V D s0 own mn cc nL ret hh l R Z (pc + 3) lo st G cells slots) : V D s0 own mn cc nL ret hh l R Z pc lo (.int y :: .int x :: st) G cells slots := fun p e s m args below meth c H locs ls C hS hE hl => lv_icmp_ge C.1 C.2.1 hdg ht (fun h9 => kt h9 p e s m args below meth c H locs ls C hS hE hl) (fun h9 => kf h9 p e s m args below meth c H locs ls C hS hE hl)
theorem V_if_gt {x : Int32} {off : Int} {tgt : Nat} (hdg : decode cc pc = .ok (.ifCond .gt off, 3)) (ht : (pc : Int) + off = (tgt : Int)) (kt : 0 < x → V D s0 own mn cc nL ret hh l R Z tgt lo st G cells slots) (kf : ¬ 0 < x → V D s0 own mn cc nL ret hh l R Z (pc + 3) lo st G cells slots) : V D s0 own mn cc nL ret hh l R Z pc lo (.int x :: st) G cells slots := fun p e s m args below meth c H locs ls C hS hE hl => lv_if_gt C.1 C.2.1 hdg ht (fun h9 => kt h9 p e s m args below meth c H locs ls C hS hE hl) (fun h9 => kf h9 p e s m args below meth c H locs ls C hS hE hl)
theorem V_icmp_gt {x y : Int32} {off : Int} {tgt : Nat} (hdg : decode cc pc = .ok (.if_icmp .gt off, 3)) (ht : (pc : Int) + off = (tgt : Int)) (kt : y < x → V D s0 own mn cc nL ret hh l R Z tgt lo st G cells slots) (kf : ¬ y < x → V D s0 own mn cc nL ret hh l R Z (pc + 3) lo st G cells slots) : V D s0 own mn cc nL ret hh l R Z pc lo (.int y :: .int x :: st) G cells slots := fun p e s m args below meth c H locs ls C hS hE hl => lv_icmp_gt C.1 C.2.1 hdg ht (fun h9 => kt h9 p e s m args below meth c H locs ls C hS hE hl) (fun h9 => kf h9 p e s m args below meth c H locs ls C hS hE hl)
theorem V_if_le {x : Int32} {off : Int} {tgt : Nat} (hdg : decode cc pc = .ok (.ifCond .le off, 3)) (ht : (pc : Int) + off = (tgt : Int)) (kt : x ≤ 0 → V D s0 own mn cc nL ret hh l R Z tgt lo st G cells slots) (kf : ¬ x ≤ 0 → V D s0 own mn cc nL ret hh l R Z (pc + 3) lo st G cells slots) : V D s0 own mn cc nL ret hh l R Z pc lo (.int x :: st) G cells slots := fun p e s m args below meth c H locs ls C hS hE hl => lv_if_le C.1 C.2.1 hdg ht (fun h9 => kt h9 p e s m args below meth c H locs ls C hS hE hl) (fun h9 => kf h9 p e s m args below meth c H locs ls C hS hE hl)
theorem V_icmp_le {x y : Int32} {off : Int} {tgt : Nat} (hdg : decode cc pc = .ok (.if_icmp .le off, 3)) (ht : (pc : Int) + off = (tgt : Int)) (kt : x ≤ y → V D s0 own mn cc nL ret hh l R Z tgt lo st G cells slots) (kf : ¬ x ≤ y → V D s0 own mn cc nL ret hh l R Z (pc + 3) lo st G cells slots) : V D s0 own mn cc nL ret hh l R Z pc lo (.int y :: .int x :: st) G cells slots := fun p e s m args below meth c H locs ls C hS hE hl => lv_icmp_le C.1 C.2.1 hdg ht (fun h9 => kt h9 p e s m args below meth c H locs ls C hS hE hl) (fun h9 => kf h9 p e s m args below meth c H locs ls C hS hE hl)
theorem V_goto {off : Int} {tgt : Nat} (hdg : decode cc pc = .ok (.goto off, 3)) (ht : (pc : Int) + off = (tgt : Int)) (k : V D s0 own mn cc nL ret hh l R Z tgt lo st G cells slots) : V D s0 own mn cc nL ret hh l R Z pc lo st G cells slots := fun p e s m args below meth c H locs ls C hS hE hl => lv_goto C.1 C.2.1 hdg ht (k p e s m args below meth c H locs ls C hS hE hl)
theorem V_ifnull {x : Nat} {off : Int} (hdg : decode cc pc = .ok (.ifnull off, 3)) (k : V D s0 own mn cc nL ret hh l R Z (pc + 3) lo st G cells slots) : V D s0 own mn cc nL ret hh l R Z pc lo (.ref x :: st) G cells slots := fun p e s m args below meth c H locs ls C hS hE hl => lv_ifnull C.1 C.2.1 hdg (k p e s m args below meth c H locs ls C hS hE hl)
theorem V_ifnullN {off : Int} {tgt : Nat} (hdg : decode cc pc = .ok (.ifnull off, 3)) (ht : (pc : Int) + off = (tgt : Int)) (k : V D s0 own mn cc nL ret hh l R Z tgt lo st G cells slots) : V D s0 own mn cc nL ret hh l R Z pc lo (.null :: st) G cells slots := fun p e s m args below meth c H locs ls C hS hE hl => lv_ifnullN C.1 C.2.1 hdg ht (k p e s m args below meth c H locs ls C hS hE hl)
theorem V_ifnonnull {x : Nat} {off : Int} {tgt : Nat} (hdg : decode cc pc = .ok (.ifnonnull off, 3)) (ht : (pc : Int) + off = (tgt : Int)) (k : V D s0 own mn cc nL ret hh l R Z tgt lo st G cells slots) : V D s0 own mn cc nL ret hh l R Z pc lo (.ref x :: st) G cells slots := fun p e s m args below meth c H locs ls C hS hE hl => lv_ifnonnull C.1 C.2.1 hdg ht (k p e s m args below meth c H locs ls C hS hE hl)
theorem V_ifnonnullN {off : Int} (hdg : decode cc pc = .ok (.ifnonnull off, 3)) (k : V D s0 own mn cc nL ret hh l R Z (pc + 3) lo st G cells slots) : V D s0 own mn cc nL ret hh l R Z pc lo (.null :: st) G cells slots := fun p e s m args below meth c H locs ls C hS hE hl => lv_ifnonnullN C.1 C.2.1 hdg (k p e s m args below meth c H locs ls C hS hE hl)
theorem V_tableOut {dflt lo9 hi9 : Int} {offs : Array Int} {len : Nat} {x : Int32} {tgt : Nat} (hdg : decode cc pc = .ok (.tableswitch dflt lo9 hi9 offs, len)) (h : x.toInt < lo9 ∨ hi9 < x.toInt) (ht : (pc : Int) + dflt = (tgt : Int)) (k : V D s0 own mn cc nL ret hh l R Z tgt lo st G cells slots) : V D s0 own mn cc nL ret hh l R Z pc lo (.int x :: st) G cells slots := fun p e s m args below meth c H locs ls C hS hE hl => lv_tableOut C.1 C.2.1 hdg h ht (k p e s m args below meth c H locs ls C hS hE hl)
theorem V_tableIn {dflt lo9 hi9 : Int} {offs : Array Int} {len : Nat} {x : Int32} {off : Int} {tgt : Nat} (hdg : decode cc pc = .ok (.tableswitch dflt lo9 hi9 offs, len)) (h1 : ¬ x.toInt < lo9) (h2 : ¬ hi9 < x.toInt) (ho : offs[(x.toInt - lo9).toNat]? = some off) (ht : (pc : Int) + off = (tgt : Int)) (k : V D s0 own mn cc nL ret hh l R Z tgt lo st G cells slots) : V D s0 own mn cc nL ret hh l R Z pc lo (.int x :: st) G cells slots := fun p e s m args below meth c H locs ls C hS hE hl => lv_tableIn C.1 C.2.1 hdg h1 h2 ho ht (k p e s m args below meth c H locs ls C hS hE hl)
/-- a class's field, as the code of 'own' names it at 'index' -/
def FL (own : String) (index ci k : Nat) : Prop := ∃ (C : String) (T : u_T) (N : Nat) (ty0 : Nat → FieldType) (ref : String), cls9[ci]? = some (C, T, N) ∧ k < N ∧ (∀ w ∈ u_ws C T N, w ∈ WT) ∧ (∀ j, j < N → parseFieldDescriptor (T j).2.2.1 = some (ty0 j)) ∧ (∀ a, a < N → ∀ b, b < N → a ≠ b → (T a).2.1 ≠ (T b).2.1) ∧ Cond.fieldLink own index ref (T k).2.1 (T k).2.2.1 ∈ WT ∧ ref = (T k).1
theorem V_getf {index ci k a : Nat} {fs : List Value} {v : Value} (hf : FL own index ci k) (hdg : decode cc pc = .ok (.getfield index, 3)) (hc : G a = some (.inl (ci, fs))) (hv : fs[k]? = some v) (kk : V D s0 own mn cc nL ret hh l R Z (pc + 3) lo (v :: st) G cells slots) : V D s0 own mn cc nL ret hh l R Z pc lo (.ref a :: st) G cells slots := by
  intro p e s m args below meth c H locs ls C9 hS hE hl
  obtain ⟨C, T, N, ty0, ref, hcl, hkN, hin, hty, hnm, hlink, href⟩ := hf
  have hP : va_P D cls9 [(a, .inr (ci, fs))] H := by
    intro j q hj
    have hz : j < 1 := (List.getElem?_eq_some_iff.mp hj).1
    rw [show j = 0 by omega] at hj
    cases hj
    exact (hE a _ hc).2
  refine va_get (D := D) (cl := cls9) (C := C) (T := T) (N := N) (ref := ref) (ci := ci) C9.1 C9.2.1 C9.2.2.2.2.2.1 hin C9.2.2.2.2.1 C9.2.2.2.2.2.2.2.2.2.2 hP 0 rfl hcl k hkN (C9.2.2.2.2.2.1 _ hlink) (by rw [href]; exact fun _ h9 => h9) hv hdg ?_
  exact kk p e s m args below meth c H locs ls C9 hS hE hl
theorem V_putf {index ci k a : Nat} {fs : List Value} {v : Value} {ty : FieldType} (hf : FL own index ci k) (hdg : decode cc pc = .ok (.putfield index, 3)) (hc : G a = some (.inl (ci, fs))) (hfin : ∀ q, cls9[ci]? = some q → (q.2.1 k).2.2.2 = false ∨ ((q.2.1 k).2.2.2 = true ∧ mn = "<init>" ∧ (q.2.1 k).1 = own)) (hd : ∀ q, cls9[ci]? = some q → parseFieldDescriptor (q.2.1 k).2.2.1 = some ty) (hn : narrow ty v = v) (hfit : fits ty v = true) (hl9 : k < fs.length) (kk : V D s0 own mn cc nL ret hh l R Z (pc + 3) lo st (gset G a (.inl (ci, fs.set k v))) cells slots) : V D s0 own mn cc nL ret hh l R Z pc lo (v :: .ref a :: st) G cells slots := by
  intro p e s m args below meth c H locs ls C9 hS hE hl
  obtain ⟨C, T, N, ty0, ref, hcl, hkN, hin, hty, hnm, hlink, href⟩ := hf
  have hts := C9.2.2.2.2.2.1
  have hown := C9.2.2.2.2.1
  have hK := C9.2.2.2.2.2.2.2.2.2.2
  have hap := va_apart (own := own) hts hin ty0 hty hnm hK hcl
  obtain ⟨hB, r, h1, cell, q1, q2, q3, q4⟩ := hE a _ hc
  have hr : r = (C, T, N) := Option.some.inj (h1.symm.trans hcl)
  subst hr
  obtain ⟨hSl, hfc, kC, hkC, hkind⟩ := hK.1 ci _ hcl
  obtain ⟨cf, kf, fi, f, hi, hsl⟩ := hSl k hkN
  have hlays := u_lays hts hin hkN
  have hst := (u_facts hfc hkC hlays hi).1
  have hi2 : s.fieldFound? ref (T k).2.1 (T k).2.2.1 = some (cf, kf, fi, f) := by rw [href]; exact hi
  have fin : ∀ H' : Heap, H'[a]? = some (cell.setSlot f.slot v) → H'.size = H.size → (∀ q, q ≠ a → H'[q]? = H[q]?) → W p l e R s m args below meth c H' (locs ++ [⟨a, f.slot⟩]) cells slots (Z below args s) (F0 m (pc + 3) ls st) := by
    intro H' e1 e2 e3
    rw [hsl] at e1 ⊢
    refine kk p e s m args below meth c H' _ ls C9 (hS.put e2 e3 hB) (hE.set hB ?_ e3) hl
    exact ⟨_, hcl, t_OB.to (V := updV (vp_V fs) k v) ⟨_, e1, q2, q3, t_set q4 hap hkN v⟩ (fun j _ => vp_updV_set hl9 v j)⟩
  rcases hfin _ hcl with hfin | ⟨hfin, hini, hdecl⟩
  · have hlay := hts _ (hin _ (u_in_lay hkN))
    unfold u_lay at hlay
    rw [if_neg (by rw [hfin]; decide)] at hlay
    have h6 := u_store hfc hkC hkind hlay hi (hd _ hcl) hn hfit
    exact W.putK C9.1 C9.2.1 (f := f) ⟨hown, hts _ hlink, ⟨_, _, _, hi2⟩, hst⟩ (by rw [q2]; exact h6) q1 q3 (by rw [hsl]; exact k2_hasslot (q4 k hkN)) rfl rfl hdg fin
  · have hlay := hts _ (hin _ (u_in_lay hkN))
    unfold u_lay at hlay
    rw [if_pos hfin] at hlay
    have hcf : m.cls = cf := by
      obtain ⟨_, _, c', _, _, _, -, -, hf', -, -, -, hown2, -⟩ := Cond.laysFinal_spec hlay
      have e1 : c' = cf := by have := hi.symm.trans hf'; simp at this; exact this.1.symm
      have hdecl2 : (T k).1 = own := hdecl
      rw [hdecl2] at hown2
      rw [← e1]; exact Option.some.inj (hown.symm.trans hown2)
    have h6 := u_fits hfc hkC hkind (Or.inr hlay) hi (hd _ hcl) hn hfit
    exact W.putFinK C9.1 C9.2.1 hown (hts _ hlink) hi2 hst hcf (C9.2.2.2.2.2.2.2.1.trans hini) (by rw [q2]; exact h6) q1 q3 (by rw [hsl]; exact k2_hasslot (q4 k hkN)) rfl rfl hdg fin
theorem V_iald {a n : Nat} {f : Nat → Value} {i : Int32} {x : Int32} (hdg : decode cc pc = .ok (.iaload, 1)) (hc : G a = some (.inr (.int, n, f))) (hin : vp_in i n) (hx : f i.toNatClampNeg = .int x) (kk : V D s0 own mn cc nL ret hh l R Z (pc + 1) lo (.int x :: st) G cells slots) : V D s0 own mn cc nL ret hh l R Z pc lo (.int i :: .ref a :: st) G cells slots := by
  intro p e s m args below meth c H locs ls C9 hS hE hl
  obtain ⟨hB, cA, h1, h2, h3⟩ := hE a _ hc
  dsimp only at h1 h2 h3
  have hlt : i.toNatClampNeg < n := Nat.not_le.mp fun q => hin (Or.inr q)
  exact W.iald (v := .int x) C9.1 C9.2.1 h1 (h2 n f) (fun q => by cases q) (by show ¬ (i < 0 ∨ (arrV _ _ _).slots.size ≤ _); rw [arrV_size]; exact hin) (by show (arrV _ _ _).slots[_]? = _; rw [arrV_read _ _ hlt, hx]) rfl rfl hdg (kk p e s m args below meth c H locs ls C9 hS hE hl)
theorem V_bald {a n : Nat} {f : Nat → Value} {i : Int32} {x : Int32} (hdg : decode cc pc = .ok (.baload, 1)) (hc : G a = some (.inr (.byte, n, f))) (hin : vp_in i n) (hx : f i.toNatClampNeg = .int x) (kk : V D s0 own mn cc nL ret hh l R Z (pc + 1) lo (.int x :: st) G cells slots) : V D s0 own mn cc nL ret hh l R Z pc lo (.int i :: .ref a :: st) G cells slots := by
  intro p e s m args below meth c H locs ls C9 hS hE hl
  obtain ⟨hB, cA, h1, h2, h3⟩ := hE a _ hc
  dsimp only at h1 h2 h3
  have hlt : i.toNatClampNeg < n := Nat.not_le.mp fun q => hin (Or.inr q)
  exact W.bald (v := .int x) C9.1 C9.2.1 h1 (h2 n f) (fun q => by cases q) (by show ¬ (i < 0 ∨ (arrV _ _ _).slots.size ≤ _); rw [arrV_size]; exact hin) (by show (arrV _ _ _).slots[_]? = _; rw [arrV_read _ _ hlt, hx]) rfl rfl hdg (kk p e s m args below meth c H locs ls C9 hS hE hl)
theorem V_zald {a n : Nat} {f : Nat → Value} {i : Int32} {x : Int32} (hdg : decode cc pc = .ok (.baload, 1)) (hc : G a = some (.inr (.boolean, n, f))) (hin : vp_in i n) (hx : f i.toNatClampNeg = .int x) (kk : V D s0 own mn cc nL ret hh l R Z (pc + 1) lo (.int x :: st) G cells slots) : V D s0 own mn cc nL ret hh l R Z pc lo (.int i :: .ref a :: st) G cells slots := by
  intro p e s m args below meth c H locs ls C9 hS hE hl
  obtain ⟨hB, cA, h1, h2, h3⟩ := hE a _ hc
  dsimp only at h1 h2 h3
  have hlt : i.toNatClampNeg < n := Nat.not_le.mp fun q => hin (Or.inr q)
  exact W.zald (v := .int x) C9.1 C9.2.1 h1 (h2 n f) (fun q => by cases q) (by show ¬ (i < 0 ∨ (arrV _ _ _).slots.size ≤ _); rw [arrV_size]; exact hin) (by show (arrV _ _ _).slots[_]? = _; rw [arrV_read _ _ hlt, hx]) rfl rfl hdg (kk p e s m args below meth c H locs ls C9 hS hE hl)
theorem V_cald {a n : Nat} {f : Nat → Value} {i : Int32} {x : Int32} (hdg : decode cc pc = .ok (.caload, 1)) (hc : G a = some (.inr (.char, n, f))) (hin : vp_in i n) (hx : f i.toNatClampNeg = .int x) (kk : V D s0 own mn cc nL ret hh l R Z (pc + 1) lo (.int x :: st) G cells slots) : V D s0 own mn cc nL ret hh l R Z pc lo (.int i :: .ref a :: st) G cells slots := by
  intro p e s m args below meth c H locs ls C9 hS hE hl
  obtain ⟨hB, cA, h1, h2, h3⟩ := hE a _ hc
  dsimp only at h1 h2 h3
  have hlt : i.toNatClampNeg < n := Nat.not_le.mp fun q => hin (Or.inr q)
  exact W.cald (v := .int x) C9.1 C9.2.1 h1 (h2 n f) (fun q => by cases q) (by show ¬ (i < 0 ∨ (arrV _ _ _).slots.size ≤ _); rw [arrV_size]; exact hin) (by show (arrV _ _ _).slots[_]? = _; rw [arrV_read _ _ hlt, hx]) rfl rfl hdg (kk p e s m args below meth c H locs ls C9 hS hE hl)
theorem V_lald {a n : Nat} {f : Nat → Value} {i : Int32} {x : Int64} (hdg : decode cc pc = .ok (.laload, 1)) (hc : G a = some (.inr (.long, n, f))) (hin : vp_in i n) (hx : f i.toNatClampNeg = .long x) (kk : V D s0 own mn cc nL ret hh l R Z (pc + 1) lo (.long x :: st) G cells slots) : V D s0 own mn cc nL ret hh l R Z pc lo (.int i :: .ref a :: st) G cells slots := by
  intro p e s m args below meth c H locs ls C9 hS hE hl
  obtain ⟨hB, cA, h1, h2, h3⟩ := hE a _ hc
  dsimp only at h1 h2 h3
  have hlt : i.toNatClampNeg < n := Nat.not_le.mp fun q => hin (Or.inr q)
  exact W.lald (v := .long x) C9.1 C9.2.1 h1 (h2 n f) (fun q => by cases q) (by show ¬ (i < 0 ∨ (arrV _ _ _).slots.size ≤ _); rw [arrV_size]; exact hin) (by show (arrV _ _ _).slots[_]? = _; rw [arrV_read _ _ hlt, hx]) rfl rfl hdg (kk p e s m args below meth c H locs ls C9 hS hE hl)
theorem V_dald {a n : Nat} {f : Nat → Value} {i : Int32} {x : UInt64} (hdg : decode cc pc = .ok (.daload, 1)) (hc : G a = some (.inr (.double, n, f))) (hin : vp_in i n) (hx : f i.toNatClampNeg = .double x) (kk : V D s0 own mn cc nL ret hh l R Z (pc + 1) lo (.double x :: st) G cells slots) : V D s0 own mn cc nL ret hh l R Z pc lo (.int i :: .ref a :: st) G cells slots := by
  intro p e s m args below meth c H locs ls C9 hS hE hl
  obtain ⟨hB, cA, h1, h2, h3⟩ := hE a _ hc
  dsimp only at h1 h2 h3
  have hlt : i.toNatClampNeg < n := Nat.not_le.mp fun q => hin (Or.inr q)
  exact W.dald (v := .double x) C9.1 C9.2.1 h1 (h2 n f) (fun q => by cases q) (by show ¬ (i < 0 ∨ (arrV _ _ _).slots.size ≤ _); rw [arrV_size]; exact hin) (by show (arrV _ _ _).slots[_]? = _; rw [arrV_read _ _ hlt, hx]) rfl rfl hdg (kk p e s m args below meth c H locs ls C9 hS hE hl)
theorem V_aald {a n : Nat} {ty : FieldType} {f : Nat → Value} {i : Int32} {v : Value} (hdg : decode cc pc = .ok (.aaload, 1)) (hc : G a = some (.inr (ty, n, f))) (hr : ty.isReference = true) (hin : vp_in i n) (hx : f i.toNatClampNeg = v) (kk : V D s0 own mn cc nL ret hh l R Z (pc + 1) lo (v :: st) G cells slots) : V D s0 own mn cc nL ret hh l R Z pc lo (.int i :: .ref a :: st) G cells slots := by
  intro p e s m args below meth c H locs ls C9 hS hE hl
  obtain ⟨hB, cA, h1, h2, h3⟩ := hE a _ hc
  dsimp only at h1 h2 h3
  have hlt : i.toNatClampNeg < n := Nat.not_le.mp fun q => hin (Or.inr q)
  exact W.aald (v := v) (ty := ty) C9.1 C9.2.1 h1 (h2 n f) hr (fun q => by cases q) (by show ¬ (i < 0 ∨ (arrV _ _ _).slots.size ≤ _); rw [arrV_size]; exact hin) (by show (arrV _ _ _).slots[_]? = _; rw [arrV_read _ _ hlt, hx]) rfl rfl hdg (kk p e s m args below meth c H locs ls C9 hS hE hl)
theorem V_iast {a n : Nat} {f : Nat → Value} {i : Int32} {x : Int32} (hdg : decode cc pc = .ok (.iastore, 1)) (hc : G a = some (.inr (.int, n, f))) (hin : vp_in i n) (kk : V D s0 own mn cc nL ret hh l R Z (pc + 1) lo st (gset G a (.inr (.int, n, updV f i.toNatClampNeg (.int x)))) cells slots) : V D s0 own mn cc nL ret hh l R Z pc lo (.int x :: .int i :: .ref a :: st) G cells slots := by
  intro p e s m args below meth c H locs ls C9 hS hE hl
  obtain ⟨hB, cA, h1, h2, h3⟩ := hE a _ hc
  dsimp only at h1 h2 h3
  refine W.iast C9.1 C9.2.1 h1 (h2 n f) (fun q => by cases q) (by show ¬ (i < 0 ∨ (arrV _ _ _).slots.size ≤ _); rw [arrV_size]; exact hin) rfl rfl hdg fun H1 e1 z oq => ?_
  refine kk p e s m args below meth c H1 _ ls C9 (hS.put z oq hB) (hE.set hB ⟨cA, ?_, h2, h3⟩ oq) hl
  rw [e1, arrV_store]
  try rfl
theorem V_cast {a n : Nat} {f : Nat → Value} {i : Int32} {x : Int32} (hdg : decode cc pc = .ok (.castore, 1)) (hc : G a = some (.inr (.char, n, f))) (hin : vp_in i n) (kk : V D s0 own mn cc nL ret hh l R Z (pc + 1) lo st (gset G a (.inr (.char, n, updV f i.toNatClampNeg (narrow .char (.int x))))) cells slots) : V D s0 own mn cc nL ret hh l R Z pc lo (.int x :: .int i :: .ref a :: st) G cells slots := by
  intro p e s m args below meth c H locs ls C9 hS hE hl
  obtain ⟨hB, cA, h1, h2, h3⟩ := hE a _ hc
  dsimp only at h1 h2 h3
  refine W.cast C9.1 C9.2.1 h1 (h2 n f) (fun q => by cases q) (by show ¬ (i < 0 ∨ (arrV _ _ _).slots.size ≤ _); rw [arrV_size]; exact hin) rfl rfl hdg fun H1 e1 z oq => ?_
  refine kk p e s m args below meth c H1 _ ls C9 (hS.put z oq hB) (hE.set hB ⟨cA, ?_, h2, h3⟩ oq) hl
  rw [e1, arrV_store]
  try rfl
theorem V_last {a n : Nat} {f : Nat → Value} {i : Int32} {x : Int64} (hdg : decode cc pc = .ok (.lastore, 1)) (hc : G a = some (.inr (.long, n, f))) (hin : vp_in i n) (kk : V D s0 own mn cc nL ret hh l R Z (pc + 1) lo st (gset G a (.inr (.long, n, updV f i.toNatClampNeg (.long x)))) cells slots) : V D s0 own mn cc nL ret hh l R Z pc lo (.long x :: .int i :: .ref a :: st) G cells slots := by
  intro p e s m args below meth c H locs ls C9 hS hE hl
  obtain ⟨hB, cA, h1, h2, h3⟩ := hE a _ hc
  dsimp only at h1 h2 h3
  refine W.last C9.1 C9.2.1 h1 (h2 n f) (fun q => by cases q) (by show ¬ (i < 0 ∨ (arrV _ _ _).slots.size ≤ _); rw [arrV_size]; exact hin) rfl rfl hdg fun H1 e1 z oq => ?_
  refine kk p e s m args below meth c H1 _ ls C9 (hS.put z oq hB) (hE.set hB ⟨cA, ?_, h2, h3⟩ oq) hl
  rw [e1, arrV_store]
  try rfl
theorem V_dast {a n : Nat} {f : Nat → Value} {i : Int32} {x : UInt64} (hdg : decode cc pc = .ok (.dastore, 1)) (hc : G a = some (.inr (.double, n, f))) (hin : vp_in i n) (kk : V D s0 own mn cc nL ret hh l R Z (pc + 1) lo st (gset G a (.inr (.double, n, updV f i.toNatClampNeg (.double x)))) cells slots) : V D s0 own mn cc nL ret hh l R Z pc lo (.double x :: .int i :: .ref a :: st) G cells slots := by
  intro p e s m args below meth c H locs ls C9 hS hE hl
  obtain ⟨hB, cA, h1, h2, h3⟩ := hE a _ hc
  dsimp only at h1 h2 h3
  refine W.dast C9.1 C9.2.1 h1 (h2 n f) (fun q => by cases q) (by show ¬ (i < 0 ∨ (arrV _ _ _).slots.size ≤ _); rw [arrV_size]; exact hin) rfl rfl hdg fun H1 e1 z oq => ?_
  refine kk p e s m args below meth c H1 _ ls C9 (hS.put z oq hB) (hE.set hB ⟨cA, ?_, h2, h3⟩ oq) hl
  rw [e1, arrV_store]
  try rfl
theorem V_aast {a n b ci : Nat} {f : Nat → Value} {i : Int32} {r : vw_C} {vs : List Value} (hdg : decode cc pc = .ok (.aastore, 1)) (hc : G a = some (.inr (.object r.1, n, f))) (hb : G b = some (.inl (ci, vs))) (hr : cls9[ci]? = some r) (hin : vp_in i n) (kk : V D s0 own mn cc nL ret hh l R Z (pc + 1) lo st (gset G a (.inr (.object r.1, n, updV f i.toNatClampNeg (.ref b)))) cells slots) : V D s0 own mn cc nL ret hh l R Z pc lo (.ref b :: .int i :: .ref a :: st) G cells slots := by
  intro p e s m args below meth c H locs ls C9 hS hE hl
  obtain ⟨hB, cA, h1, h2, h3⟩ := hE a _ hc
  dsimp only at h1 h2 h3
  obtain ⟨-, r', hr', cellV, g1, g2, g3, -⟩ := hE b _ hb
  have hlt : i.toNatClampNeg < n := Nat.not_le.mp fun q => hin (Or.inr q)
  have h0 : ¬ i < 0 := fun q => hin (Or.inl q)
  have hcls := ((C9.2.2.2.2.2.2.2.2.2.2).1 ci r hr).2
  obtain ⟨kA, comp, k1, k2, k3, k4⟩ := h3
  have hcomp : comp = D.1 ci := Option.some.inj (k3.symm.trans hcls.1)
  subst hcomp
  obtain ⟨kC, hkC, -⟩ := hcls.2
  refine W.aast C9.1 C9.2.1 h1 (fun q h => by cases h) (fun h => by cases h) k1 k2 rfl hkC ⟨h0, by show _ < (arrV _ _ _).slots.size; rw [arrV_size]; exact hlt⟩ g1 (fun q h => by rw [g3] at h; cases h) (by rw [g2]; exact hkC) (by rw [g2]; exact va_assign hcls) rfl rfl hdg fun H1 e1 z oq => ?_
  refine kk p e s m args below meth c H1 _ ls C9 (hS.put z oq hB) (hE.set hB ⟨cA, ?_, h2, ⟨kA, _, k1, k2, k3, k4⟩⟩ oq) hl
  rw [e1, arrV_store]
  try rfl
theorem V_alen {a n : Nat} {ty : FieldType} {f : Nat → Value} {v : Int32} (hdg : decode cc pc = .ok (.arraylength, 1)) (hc : G a = some (.inr (ty, n, f))) (hv : Int32.ofNat n = v) (kk : V D s0 own mn cc nL ret hh l R Z (pc + 1) lo (.int v :: st) G cells slots) : V D s0 own mn cc nL ret hh l R Z pc lo (.ref a :: st) G cells slots := by
  intro p e s m args below meth c H locs ls C9 hS hE hl
  obtain ⟨hB, cA, h1, h2, h3⟩ := hE a _ hc
  dsimp only at h1 h2 h3
  exact W.alen (n := v) C9.1 C9.2.1 h1 (h2 n f) (by rw [arrV_size]; exact hv) rfl rfl hdg (kk p e s m args below meth c H locs ls C9 hS hE hl)
theorem V_newa {atype : ArrayType} {ty : FieldType} {n : Int32} {N : Nat} (hdg : decode cc pc = .ok (.newarray atype, 2)) (hw : Cond.arrayClass (newarray.typeOf atype) ∈ WT) (hty : newarray.typeOf atype = ty) (hn : ¬ n < 0) (hN : n.toNatClampNeg = N) (hbytes : N * componentBytes ty ≤ 536870912) (hcells : cells + 1 ≤ R.cells) (hslots : slots + N ≤ R.slots) (hob : ∀ C, ty ≠ .object C) (kk : ∀ q : Nat, s0.heap.size ≤ q → G q = none → V D s0 own mn cc nL ret hh l R Z (pc + 2) lo (.ref q :: st) (gset G q (.inr (ty, N, fun _ => defaultValue ty))) (cells + 1) (slots + N)) : V D s0 own mn cc nL ret hh l R Z pc lo (.int n :: st) G cells slots := by
  intro p e s m args below meth c H locs ls C9 hS hE hl
  subst hty
  refine va_newaK C9.1 C9.2.1 (C9.2.2.2.2.2.1 _ hw) rfl hdg rfl hn hN hbytes hcells hslots rfl fun H1 cA e1 z1 o1 hAr hNm => ?_
  have hsz : s0.heap.size ≤ H.size := Nat.le_trans C9.2.2.2.2.2.2.2.2.2.1.2.2.1 hS.1
  refine kk H.size hsz hE.fresh p e s m args below meth c H1 locs ls C9 ⟨Nat.le_trans hS.1 (by omega), fun x h1 h2 => (o1 x (Nat.lt_of_lt_of_le h1 hS.1)).trans (hS.2.1 x h1 h2), hS.2.2⟩ (hE.new hsz ⟨cA, e1, hAr, ?_⟩ o1) hl
  cases atype <;> exact hNm
theorem V_newq {index : Nat} {C : String} {n : Int32} {N : Nat} (hdg : decode cc pc = .ok (.anewarray index, 3)) (hw : Cond.classLink own index C ∈ WT) (hw2 : Cond.arrayOver (.object C) ∈ WT) (hn : ¬ n < 0) (hN : n.toNatClampNeg = N) (hbytes : N * 4 ≤ 536870912) (hcells : cells + 1 ≤ R.cells) (hslots : slots + N ≤ R.slots) (kk : ∀ q : Nat, s0.heap.size ≤ q → G q = none → V D s0 own mn cc nL ret hh l R Z (pc + 3) lo (.ref q :: st) (gset G q (.inr (.object C, N, fun _ => .null))) (cells + 1) (slots + N)) : V D s0 own mn cc nL ret hh l R Z pc lo (.int n :: st) G cells slots := by
  intro p e s m args below meth c H locs ls C9 hS hE hl
  have hAO : va_AO C s := by
    have h9 := C9.2.2.2.2.2.1 _ hw2
    exact word_at (State.WarmedH.refl s) (wt_good hw2).2 h9
  subst hN
  refine W.anew C9.1 C9.2.1 C9.2.2.2.2.1 (C9.2.2.2.2.2.1 _ hw) (va_AO.use hAO) rfl hdg rfl hn hbytes hcells hslots fun cA kA comp f1 f2 f3 f4 => ?_
  generalize hH1 : H.push ({ cls := cA, slots := Array.replicate n.toNatClampNeg .null, vm := .none } : Cell) = H1
  have z1 : H1.size = H.size + 1 := by rw [← hH1, Array.size_push]
  have e1 : H1[H.size]? = some (arrV cA n.toNatClampNeg (fun _ => .null)) := by rw [← hH1, Array.getElem?_push_size, ← arrV_new]
  have o1 : ∀ q : Nat, q < H.size → H1[q]? = H[q]? := fun q hq => by rw [← hH1, Array.getElem?_push, if_neg (Nat.ne_of_lt hq)]
  have hAr : ArrOfT s cA (.object C) := fun N z => ⟨(fun k h => by cases h), kA, f2, comp, f3⟩
  have hsz : s0.heap.size ≤ H.size := Nat.le_trans C9.2.2.2.2.2.2.2.2.2.1.2.2.1 hS.1
  exact kk H.size hsz hE.fresh p e s m args below meth c H1 locs ls C9 ⟨Nat.le_trans hS.1 (by omega), fun x h1 h2 => (o1 x (Nat.lt_of_lt_of_le h1 hS.1)).trans (hS.2.1 x h1 h2), hS.2.2⟩ (hE.new hsz ⟨cA, e1, hAr, ⟨kA, comp, f2, f3, f4, f1⟩⟩ o1) hl

theorem V_new {index ci N : Nat} {C : String} {T : u_T} {ty : Nat → FieldType} {fs : List Value} (hdg : decode cc pc = .ok (.new index, 3)) (hcl : cls9[ci]? = some (C, T, N)) (hin : ∀ w ∈ u_ws C T N, w ∈ WT) (hty : ∀ k, k < N → parseFieldDescriptor (T k).2.2.1 = some (ty k)) (hw : Cond.classLink own index C ∈ WT) (hw2 : Cond.instantiable C N ∈ WT) (hw3 : Cond.initialized C ∈ WT) (hfs : ∀ j, j < N → defaultValue (ty j) = vp_V fs j) (hcells : cells + 1 ≤ R.cells) (hslots : slots + N ≤ R.slots) (kk : ∀ q : Nat, s0.heap.size ≤ q → G q = none → V D s0 own mn cc nL ret hh l R Z (pc + 3) lo (.ref q :: st) (gset G q (.inl (ci, fs))) (cells + 1) (slots + N)) : V D s0 own mn cc nL ret hh l R Z pc lo st G cells slots := by
  intro p e s m args below meth c H locs ls C9 hS hE hl
  have hts := C9.2.2.2.2.2.1
  have hKn := (C9.2.2.2.2.2.2.2.2.2.2).1 ci _ hcl
  refine W.newcK C9.1 C9.2.1 C9.2.2.2.2.1 (hts _ hw) (hts _ hw2) (hts _ hw3) rfl hdg hcells hslots hKn.2.1 rfl fun H1 kC hkC e1 z1 o1 => ?_
  have hsz : s0.heap.size ≤ H.size := Nat.le_trans C9.2.2.2.2.2.2.2.2.2.1.2.2.1 hS.1
  exact kk H.size hsz hE.fresh p e s m args below meth c H1 locs ls C9 ⟨Nat.le_trans hS.1 (by omega), fun x h1 h2 => (o1 x (Nat.lt_of_lt_of_le h1 hS.1)).trans (hS.2.1 x h1 h2), hS.2.2⟩ (hE.new hsz ⟨_, hcl, (u_born ty hts hin hKn hkC e1 hty).to hfs⟩ o1) hl
theorem V_objInit {idx a : Nat} (hdg : decode cc pc = .ok (.invokespecial idx, 3)) (h1 : Cond.methodLink own idx Lib.objectInit ∈ WT) (h2 : Cond.instanceMethod Lib.objectInit ∈ WT) (h3 : Cond.code Lib.objectInit ⟨#[0xb1]⟩ 1 none ∈ WT) (hfr : 1 ≤ R.frames) (hlo : (st.map fun v => v.category).sum + 12 ≤ R.locals) (kk : V D s0 own mn cc nL ret hh l R Z (pc + 3) lo st G cells slots) : V D s0 own mn cc nL ret hh l R Z pc lo (.ref a :: st) G cells slots := by
  intro p e s m args below meth c H locs ls C9 hS hE hl
  have hts := C9.2.2.2.2.2.1
  refine W.objInit C9.1 C9.2.1 C9.2.2.2.2.1 (hts _ h1) (hts _ h2) (hts _ h3) rfl (by rw [C9.2.2.1]; exact hl.1) rfl hdg hfr (by show 2 * JFrame.monitorRoom _ + _ + 12 ≤ _; simpa [JFrame.monitorRoom] using hlo) ?_
  exact kk p e s m args below meth c H locs ls C9 hS hE hl
theorem V_iret {d mc ms : Nat} {Post : Option Value → GH → Prop} {PX : String → GH → Prop} {v : Int32} (hdg : decode cc pc = .ok (.ireturn, 1)) (hr : ret = some .int) (hc : cells ≤ mc) (hs : slots ≤ ms) (hp : Post (some (.int v)) G) : V D s0 own mn cc nL ret hh l (rmd d mc ms) (Zm D s0 mc ms Post PX) pc lo [.int v] G cells slots :=
  fun p e s m args below meth c H locs ls C9 hS hE hl => W.widen hc hs (vx_ret (W.iret C9.1 C9.2.1 (C9.2.2.2.1.trans hr) (fun t ht hW => ⟨_, G, rfl, hp, by rw [ht]; exact Emb.moved hW.alike hE, hS.F ht⟩) hS.2.2 hdg C9.2.2.2.2.2.2.1))
theorem V_lret {d mc ms : Nat} {Post : Option Value → GH → Prop} {PX : String → GH → Prop} {v : Int64} (hdg : decode cc pc = .ok (.lreturn, 1)) (hr : ret = some .long) (hc : cells ≤ mc) (hs : slots ≤ ms) (hp : Post (some (.long v)) G) : V D s0 own mn cc nL ret hh l (rmd d mc ms) (Zm D s0 mc ms Post PX) pc lo [.long v] G cells slots :=
  fun p e s m args below meth c H locs ls C9 hS hE hl => W.widen hc hs (vx_ret (W.lret C9.1 C9.2.1 (C9.2.2.2.1.trans hr) (fun t ht hW => ⟨_, G, rfl, hp, by rw [ht]; exact Emb.moved hW.alike hE, hS.F ht⟩) hS.2.2 hdg C9.2.2.2.2.2.2.1))
theorem V_fret {d mc ms : Nat} {Post : Option Value → GH → Prop} {PX : String → GH → Prop} {v : UInt32} (hdg : decode cc pc = .ok (.freturn, 1)) (hr : ret = some .float) (hc : cells ≤ mc) (hs : slots ≤ ms) (hp : Post (some (.float v)) G) : V D s0 own mn cc nL ret hh l (rmd d mc ms) (Zm D s0 mc ms Post PX) pc lo [.float v] G cells slots :=
  fun p e s m args below meth c H locs ls C9 hS hE hl => W.widen hc hs (vx_ret (W.fret C9.1 C9.2.1 (C9.2.2.2.1.trans hr) (fun t ht hW => ⟨_, G, rfl, hp, by rw [ht]; exact Emb.moved hW.alike hE, hS.F ht⟩) hS.2.2 hdg C9.2.2.2.2.2.2.1))
theorem V_dret {d mc ms : Nat} {Post : Option Value → GH → Prop} {PX : String → GH → Prop} {v : UInt64} (hdg : decode cc pc = .ok (.dreturn, 1)) (hr : ret = some .double) (hc : cells ≤ mc) (hs : slots ≤ ms) (hp : Post (some (.double v)) G) : V D s0 own mn cc nL ret hh l (rmd d mc ms) (Zm D s0 mc ms Post PX) pc lo [.double v] G cells slots :=
  fun p e s m args below meth c H locs ls C9 hS hE hl => W.widen hc hs (vx_ret (W.dret C9.1 C9.2.1 (C9.2.2.2.1.trans hr) (fun t ht hW => ⟨_, G, rfl, hp, by rw [ht]; exact Emb.moved hW.alike hE, hS.F ht⟩) hS.2.2 hdg C9.2.2.2.2.2.2.1))
theorem V_zret {d mc ms : Nat} {Post : Option Value → GH → Prop} {PX : String → GH → Prop} {v : Int32} {ty : FieldType} (hdg : decode cc pc = .ok (.ireturn, 1)) (hr : ret = some ty) (hn : narrow ty (.int v) = .int v) (hc : cells ≤ mc) (hs : slots ≤ ms) (hp : Post (some (.int v)) G) : V D s0 own mn cc nL ret hh l (rmd d mc ms) (Zm D s0 mc ms Post PX) pc lo [.int v] G cells slots :=
  fun p e s m args below meth c H locs ls C9 hS hE hl => W.widen hc hs (vx_ret (W.zret C9.1 C9.2.1 (C9.2.2.2.1.trans hr) hn (fun t ht hW => ⟨_, G, rfl, hp, by rw [ht]; exact Emb.moved hW.alike hE, hS.F ht⟩) hS.2.2 hdg C9.2.2.2.2.2.2.1))
theorem V_vret {d mc ms : Nat} {Post : Option Value → GH → Prop} {PX : String → GH → Prop} (hdg : decode cc pc = .ok (.return_, 1)) (hr : ret = none) (hc : cells ≤ mc) (hs : slots ≤ ms) (hp : Post none G) : V D s0 own mn cc nL ret hh l (rmd d mc ms) (Zm D s0 mc ms Post PX) pc lo [] G cells slots :=
  fun p e s m args below meth c H locs ls C9 hS hE hl => W.widen hc hs (vx_ret (W.vret C9.1 C9.2.1 (C9.2.2.2.1.trans hr) (fun t ht hW => ⟨_, G, rfl, hp, by rw [ht]; exact Emb.moved hW.alike hE, hS.F ht⟩) hS.2.2 hdg C9.2.2.2.2.2.2.1))
theorem V_aret {d mc ms : Nat} {Post : Option Value → GH → Prop} {PX : String → GH → Prop} {v : Value} {rt : FieldType} (hdg : decode cc pc = .ok (.areturn, 1)) (hr : ret = some rt) (hrt : (∃ n, rt = .object n) ∨ ∃ t, rt = .array t) (hv : v = .null ∨ ∃ a, v = .ref a) (hc : cells ≤ mc) (hs : slots ≤ ms) (hp : Post (some v) G) : V D s0 own mn cc nL ret hh l (rmd d mc ms) (Zm D s0 mc ms Post PX) pc lo [v] G cells slots :=
  fun p e s m args below meth c H locs ls C9 hS hE hl => W.widen hc hs (vx_ret (W.aret C9.1 C9.2.1 (C9.2.2.2.1.trans hr) hrt hv (fun t ht hW => ⟨_, G, rfl, hp, by rw [ht]; exact Emb.moved hW.alike hE, hS.F ht⟩) hS.2.2 hdg C9.2.2.2.2.2.2.1))
/-- behind a call that returns or throws -/
theorem V_run {p : Program} {e : Env} {s : State} {m : MethodId} {args : Array Value} {below : List Frame} {meth : Method} {c : Code} {H : Heap} {locs : List Loc} {ls : Array Slot} {Post : Option Value → GH → Prop} {PX : String → GH → Prop} {mc ms : Nat} {a : Array Value} {st0 : List Value} (C9 : Cx D s0 own mn cc nL ret hh p s m args meth c) (hS : va_S (bA s0) s.heap H locs) (hl : lv_has ls nL lo)
    (hr : vx_Run p l e R s m args below meth c H locs cells slots mc ms (F0 m pc ls st0) st (QcV D s0 Post a) (XcV D s0 PX) (bA s0))
    (kk : ∀ (rv : Option Value) (G' : GH), Post rv G' → V D s0 own mn cc nL ret hh l R Z (pc + 3) lo (rv.toList ++ st) G' (cells + mc) (slots + ms)) (kx : ∀ (E : String) (G' : GH), PX E G' → VX D s0 own mn cc nL ret hh l R Z pc lo st E G' (cells + mc) (slots + ms)) : W p l e R s m args below meth c H locs cells slots (Z below args s) (F0 m pc ls st0) := by
  intro T hT X
  rcases hr T hT X with ⟨v, st₀, t, T', L, h0, X', hL, e1, e2, ⟨rv, G', hv, hp, hb, hF⟩, stp⟩ | ⟨q, st₀, t, T', L, E, ce, h0, X', hL, e1, e2, ⟨G', hp, hb, hF⟩, hce, hcv, hcl, stp⟩
  · cases hv
    obtain ⟨k1, k2, k3⟩ := vx_keep (free := bA s0) h0 e1 hS (fun _ _ h => h) (fun _ h => h) hL hF
    have hal : s.vm.Alike t.vm := by rw [← e2]; exact X'.warmed.alike
    have hE' : Emb D s0.heap.size s G' T'.heap := by rw [e1]; exact Emb.moved hal.symm hb
    obtain ⟨t2, a1, b1⟩ := kk v G' hp p e s m args below meth c T'.heap (locs ++ L) ls C9 k3 hE' hl T' rfl X'
    exact ⟨t2, stp t2 a1, b1⟩
  · obtain ⟨k1, k2, k3⟩ := vx_keep (free := bA s0) h0 e1 hS (fun _ _ h => h) (fun _ h => h) hL hF
    have hal : s.vm.Alike t.vm := by rw [← e2]; exact X'.warmed.alike
    have hE' : Emb D s0.heap.size s G' T'.heap := by rw [e1]; exact Emb.moved hal.symm hb
    obtain ⟨t2, a1, b1⟩ := kx E G' hp p e s m args below meth c T'.heap (locs ++ L) ls q ce C9 k3 hE' hl (by rw [e1]; exact hce) hcv hcl T' rfl X'
    exact ⟨t2, stp.trans a1, b1⟩
theorem pre_S {p : Program} {s : State} {m : MethodId} {args : Array Value} {meth : Method} {c : Code} {H : Heap} {locs : List Loc} {as : List Value} (C9 : Cx D s0 own mn cc nL ret hh p s m args meth c) (hS : va_S (bA s0) s.heap H locs) (hE : Emb D s0.heap.size s G H) : PreS s H (PcV D s0 as G) as :=
  ⟨pc_blind, fun U hU hW => ⟨rfl, Fr.go C9.2.2.2.2.2.2.2.2.2.1 hS hW hU, va_K.moved hW.alike C9.2.2.2.2.2.2.2.2.2.2, by rw [hU]; exact Emb.moved hW.alike hE⟩⟩
theorem pre_V {p : Program} {s : State} {m : MethodId} {args : Array Value} {meth : Method} {c : Code} {H : Heap} {locs : List Loc} {as : List Value} {b ci : Nat} {fs : List Value} {q : vw_C} (C9 : Cx D s0 own mn cc nL ret hh p s m args meth c) (hS : va_S (bA s0) s.heap H locs) (hE : Emb D s0.heap.size s G H) (hb : G b = some (.inl (ci, fs))) (hq : cls9[ci]? = some q) : PreV s H q.1 b (PcV D s0 (.ref b :: as) G) as := by
  obtain ⟨g1, g2⟩ := pre_S (as := .ref b :: as) C9 hS hE
  refine ⟨g1, ?_, g2⟩
  obtain ⟨-, q', h1, cell, e1, e2, e3, -⟩ := hE b _ hb
  exact ⟨cell, e1, by rw [e3]; rfl, by rw [e2]; exact ((C9.2.2.2.2.2.2.2.2.2.2).1 ci q hq).2.1⟩
/-- what a call's site names: a virtual call of y -/
def CV (own : String) (index : Nat) (y : MethodName) (cc' : ByteArray) (nL' : Nat) (ret' : Option FieldType) (n : Nat) : Prop := GoodIn WT (wsV own index y.cls y (.code y cc' nL' ret' :: WT)) ∧ (y.cls ≠ "java/lang/invoke/MethodHandle" ∧ y.cls ≠ "java/lang/invoke/VarHandle" ∧ (parseMethodDescriptor y.desc).map (fun d => d.parameters.length) = some n) ∧ nL' ≤ 16
def CS (own : String) (index : Nat) (y : MethodName) (cc' : ByteArray) (nL' : Nat) (ret' : Option FieldType) (n : Nat) : Prop := GoodIn WT (wsS own index y (.code y cc' nL' ret' :: WT)) ∧ (y.cls = own ∧ y.cls ≠ "java/lang/invoke/MethodHandle" ∧ y.cls ≠ "java/lang/invoke/VarHandle" ∧ (parseMethodDescriptor y.desc).map (fun d => d.parameters.length) = some n) ∧ nL' ≤ 16
theorem rm_ok {R : Room} {d d' nL' mc' ms' : Nat} (hR : d + 5 ≤ R.frames ∧ 35 * d + 120 ≤ R.locals) (hd : d' < d) (hn : nL' ≤ 16) : (rmd d' mc' ms').frames + 1 ≤ R.frames ∧ 8 + (nL' + 11) + (rmd d' mc' ms').locals ≤ R.locals := by
  simp only [rmd]
  omega
theorem V_call {index d d' mc' ms' n ci b nL' : Nat} {y : MethodName} {cc' : ByteArray} {ret' : Option FieldType} {as fs : List Value} {q : vw_C} {Post : Option Value → GH → Prop} {PX : String → GH → Prop} {st0 : List Value} (hC : CV own index y cc' nL' ret' n) (hdg : decode cc pc = .ok (.invokevirtual index, 3)) (hM : Tri D s0 l y cc' nL' ret' d' mc' ms' (.ref b :: as) G Post PX) (hb : G b = some (.inl (ci, fs))) (hq : cls9[ci]? = some q) (hqy : q.1 = y.cls) (hn : as.length = n) (hst : st0 = as.reverse ++ .ref b :: st) (hW : (st.map fun v => v.category).sum ≤ 8) (hR : d + 5 ≤ R.frames ∧ 35 * d + 120 ≤ R.locals) (hd : d' < d) (hf : cells + mc' ≤ R.cells ∧ slots + ms' ≤ R.slots)
    (kk : ∀ (rv : Option Value) (G' : GH), Post rv G' → V D s0 own mn cc nL ret hh l R Z (pc + 3) lo (rv.toList ++ st) G' (cells + mc') (slots + ms')) (kx : ∀ (E : String) (G' : GH), PX E G' → VX D s0 own mn cc nL ret hh l R Z pc lo st E G' (cells + mc') (slots + ms')) : V D s0 own mn cc nL ret hh l R Z pc lo st0 G cells slots := by
  intro p e s m args below meth c H locs ls C9 hS hE hl
  subst hst
  obtain ⟨hG, hy, hn3⟩ := hC
  have hp := pre_V (as := as) C9 hS hE hb hq
  rw [hqy] at hp
  exact V_run C9 hS hl (vx_runV (Ts := WT) ⟨C9.1, C9.2.1, C9.2.2.1, C9.2.2.2.2.1, C9.2.2.2.2.2.1⟩ hM (cwV n C9.2.2.2.2.2.1 hG rfl rfl rfl ⟨rfl, hy⟩ (rm_ok hR hd hn3)) hp rfl hn hl.1 rfl (by simpa [JFrame.monitorRoom] using hW) hdg hf) kk kx
theorem V_calls {index d d' mc' ms' n nL' : Nat} {y : MethodName} {cc' : ByteArray} {ret' : Option FieldType} {as : List Value} {Post : Option Value → GH → Prop} {PX : String → GH → Prop} {st0 : List Value} (hC : CS own index y cc' nL' ret' n) (hdg : decode cc pc = .ok (.invokestatic index, 3)) (hM : Tri D s0 l y cc' nL' ret' d' mc' ms' as G Post PX) (hn : as.length = n) (hst : st0 = as.reverse ++ st) (hW : (st.map fun v => v.category).sum ≤ 8) (hR : d + 5 ≤ R.frames ∧ 35 * d + 120 ≤ R.locals) (hd : d' < d) (hf : cells + mc' ≤ R.cells ∧ slots + ms' ≤ R.slots)
    (kk : ∀ (rv : Option Value) (G' : GH), Post rv G' → V D s0 own mn cc nL ret hh l R Z (pc + 3) lo (rv.toList ++ st) G' (cells + mc') (slots + ms')) (kx : ∀ (E : String) (G' : GH), PX E G' → VX D s0 own mn cc nL ret hh l R Z pc lo st E G' (cells + mc') (slots + ms')) : V D s0 own mn cc nL ret hh l R Z pc lo st0 G cells slots := by
  intro p e s m args below meth c H locs ls C9 hS hE hl
  subst hst
  obtain ⟨hG, hy, hn3⟩ := hC
  exact V_run C9 hS hl (vx_runS (Ts := WT) ⟨C9.1, C9.2.1, C9.2.2.1, C9.2.2.2.2.1, C9.2.2.2.2.2.1⟩ hM (cwS n C9.2.2.2.2.2.1 hG rfl rfl rfl hy (rm_ok hR hd hn3)) (pre_S C9 hS hE) rfl hn hl.1 rfl (by simpa [JFrame.monitorRoom] using hW) hdg hf) kk kx
theorem VX_out {d mc ms : Nat} {Post : Option Value → GH → Prop} {PX : String → GH → Prop} {E : String} (hh0 : hh = []) (hc : cells ≤ mc) (hs : slots ≤ ms) (hp : PX E G) : VX D s0 own mn cc nL ret hh l (rmd d mc ms) (Zm D s0 mc ms Post PX) pc lo st E G cells slots := by
  intro p e s m args below meth c H locs ls q ce C9 hS hE hl hq hv hcl
  have ht : c.exceptionTable.toList = [] := by rw [C9.2.2.2.2.2.2.2.2.1, hh0]; rfl
  exact vx_out (fun x hx => by rw [ht] at hx; cases hx) C9.2.2.2.2.2.2.1 hq hv hcl (fun t ht hvm => ⟨G, hp, by rw [ht]; exact Emb.moved hvm hE, hS.F ht⟩) hS.2.2 hc hs

def CN (own : String) (index : Nat) (y : MethodName) (host : String) (cc' : ByteArray) (nL' : Nat) (ret' : Option FieldType) (n : Nat) : Prop := GoodIn WT (.code y cc' nL' ret' :: WT) ∧ Cond.methodLinkNest own index y host ∈ lw_tbl ∧ Cond.initialized y.cls ∈ WT ∧ (y.cls ≠ "java/lang/invoke/MethodHandle" ∧ y.cls ≠ "java/lang/invoke/VarHandle" ∧ (parseMethodDescriptor y.desc).map (fun d => d.parameters.length) = some n) ∧ nL' ≤ 16
def CI (own : String) (index : Nat) (y : MethodName) (cc' : ByteArray) (nL' : Nat) (n : Nat) : Prop := GoodIn WT (.code y cc' nL' none :: WT) ∧ Cond.methodLink own index y ∈ WT ∧ Cond.initialized y.cls ∈ WT ∧ Cond.instanceMethod y ∈ WT ∧ (y.cls ≠ "java/lang/invoke/MethodHandle" ∧ y.cls ≠ "java/lang/invoke/VarHandle" ∧ (parseMethodDescriptor y.desc).map (fun d => d.parameters.length) = some n) ∧ nL' ≤ 16
theorem V_callsN {index d d' mc' ms' n nL' : Nat} {y : MethodName} {host : String} {cc' : ByteArray} {ret' : Option FieldType} {as : List Value} {Post : Option Value → GH → Prop} {PX : String → GH → Prop} {st0 : List Value} (hC : CN own index y host cc' nL' ret' n) (hstt : Cond.static y ∈ WT) (hdg : decode cc pc = .ok (.invokestatic index, 3)) (hM : Tri D s0 l y cc' nL' ret' d' mc' ms' as G Post PX) (hn : as.length = n) (hst : st0 = as.reverse ++ st) (hW : (st.map fun v => v.category).sum ≤ 8) (hR : d + 5 ≤ R.frames ∧ 35 * d + 120 ≤ R.locals) (hd : d' < d) (hf : cells + mc' ≤ R.cells ∧ slots + ms' ≤ R.slots)
    (kk : ∀ (rv : Option Value) (G' : GH), Post rv G' → V D s0 own mn cc nL ret hh l R Z (pc + 3) lo (rv.toList ++ st) G' (cells + mc') (slots + ms')) (kx : ∀ (E : String) (G' : GH), PX E G' → VX D s0 own mn cc nL ret hh l R Z pc lo st E G' (cells + mc') (slots + ms')) : V D s0 own mn cc nL ret hh l R Z pc lo st0 G cells slots := by
  intro p e s m args below meth c H locs ls C9 hS hE hl
  subst hst
  obtain ⟨hG, hlk, hini, hy, hn3⟩ := hC
  have hts := C9.2.2.2.2.2.1
  have hF := C9.2.2.2.2.2.2.2.2.2.1
  have hnw : va_Nw (.methodLinkNest own index y host) s := va_Nw.warmM hF.2.1 (hF.1.nw hlk rfl)
  exact V_run C9 hS hl (vx_runSN (Ts := WT) ⟨C9.1, C9.2.1, C9.2.2.1, C9.2.2.2.2.1, hts⟩ hM ⟨va_cnB n hts hG rfl rfl rfl hnw (hts _ hini) hy (rm_ok hR hd hn3), hts _ hstt, trivial⟩ (pre_S C9 hS hE) rfl hn hl.1 rfl (by simpa [JFrame.monitorRoom] using hW) hdg hf) kk kx
theorem V_callIN {index d d' mc' ms' n b nL' : Nat} {y : MethodName} {host : String} {cc' : ByteArray} {as : List Value} {Post : Option Value → GH → Prop} {PX : String → GH → Prop} {st0 : List Value} (hC : CN own index y host cc' nL' none n) (hin : Cond.instanceMethod y ∈ WT) (hy1 : y.name = "<init>") (hdg : decode cc pc = .ok (.invokespecial index, 3)) (hM : Tri D s0 l y cc' nL' none d' mc' ms' (.ref b :: as) G Post PX) (hn : as.length = n) (hst : st0 = as.reverse ++ .ref b :: st) (hW : (st.map fun v => v.category).sum ≤ 8) (hR : d + 5 ≤ R.frames ∧ 35 * d + 120 ≤ R.locals) (hd : d' < d) (hf : cells + mc' ≤ R.cells ∧ slots + ms' ≤ R.slots)
    (kk : ∀ (rv : Option Value) (G' : GH), Post rv G' → V D s0 own mn cc nL ret hh l R Z (pc + 3) lo (rv.toList ++ st) G' (cells + mc') (slots + ms')) (kx : ∀ (E : String) (G' : GH), PX E G' → VX D s0 own mn cc nL ret hh l R Z pc lo st E G' (cells + mc') (slots + ms')) : V D s0 own mn cc nL ret hh l R Z pc lo st0 G cells slots := by
  intro p e s m args below meth c H locs ls C9 hS hE hl
  subst hst
  obtain ⟨hG, hlk, hini, hy, hn3⟩ := hC
  have hts := C9.2.2.2.2.2.1
  have hF := C9.2.2.2.2.2.2.2.2.2.1
  have hnw : va_Nw (.methodLinkNest own index y host) s := va_Nw.warmM hF.2.1 (hF.1.nw hlk rfl)
  exact V_run C9 hS hl (vx_runIN (Ts := WT) ⟨C9.1, C9.2.1, C9.2.2.1, C9.2.2.2.2.1, hts⟩ hM ⟨va_cnB n hts hG rfl rfl rfl hnw (hts _ hini) hy (rm_ok hR hd hn3), hy1, hts _ hin⟩ (pre_S C9 hS hE) rfl hn hl.1 rfl (by simpa [JFrame.monitorRoom] using hW) hdg hf) kk kx
theorem V_callI {index d d' mc' ms' n b nL' : Nat} {y : MethodName} {cc' : ByteArray} {as : List Value} {Post : Option Value → GH → Prop} {PX : String → GH → Prop} {st0 : List Value} (hC : CI own index y cc' nL' n) (hy1 : y.name = "<init>") (hdg : decode cc pc = .ok (.invokespecial index, 3)) (hM : Tri D s0 l y cc' nL' none d' mc' ms' (.ref b :: as) G Post PX) (hn : as.length = n) (hst : st0 = as.reverse ++ .ref b :: st) (hW : (st.map fun v => v.category).sum ≤ 8) (hR : d + 5 ≤ R.frames ∧ 35 * d + 120 ≤ R.locals) (hd : d' < d) (hf : cells + mc' ≤ R.cells ∧ slots + ms' ≤ R.slots)
    (kk : ∀ (rv : Option Value) (G' : GH), Post rv G' → V D s0 own mn cc nL ret hh l R Z (pc + 3) lo (rv.toList ++ st) G' (cells + mc') (slots + ms')) (kx : ∀ (E : String) (G' : GH), PX E G' → VX D s0 own mn cc nL ret hh l R Z pc lo st E G' (cells + mc') (slots + ms')) : V D s0 own mn cc nL ret hh l R Z pc lo st0 G cells slots := by
  intro p e s m args below meth c H locs ls C9 hS hE hl
  subst hst
  obtain ⟨hG, hlk, hini, hin, hy, hn3⟩ := hC
  have hts := C9.2.2.2.2.2.1
  exact V_run C9 hS hl (vx_runI (Ts := WT) ⟨C9.1, C9.2.1, C9.2.2.1, C9.2.2.2.2.1, hts⟩ hM (cwI n hts hG rfl rfl rfl (hts _ hini) (hts _ hlk) (hts _ hin) hy1 hy (rm_ok hR hd hn3)) (pre_S C9 hS hE) rfl hn hl.1 rfl (by simpa [JFrame.monitorRoom] using hW) hdg hf) kk kx
def CM (own : String) (index : Nat) (y : MethodName) (bytes : ByteArray) : Prop := Cond.methodLink own index y ∈ WT ∧ Cond.static y ∈ WT ∧ Cond.initialized "java/lang/Math" ∈ WT ∧ Cond.code y bytes 2 (some .int) ∈ WT
theorem V_mmax {index : Nat} {x y : Int32} (hC : CM own index Lib.Math.max.name Lib.Math.max.code) (hdg : decode cc pc = .ok (.invokestatic index, 3)) (hf : 1 ≤ R.frames) (hlo : (st.map fun v => v.category).sum + 13 ≤ R.locals) (hc : cells ≤ R.cells) (hs : slots ≤ R.slots) (k : V D s0 own mn cc nL ret hh l R Z (pc + 3) lo (.int (if x < y then y else x) :: st) G cells slots) : V D s0 own mn cc nL ret hh l R Z pc lo (.int y :: .int x :: st) G cells slots := by
  intro p e s m args below meth c H locs ls C9 hS hE hl
  have hts := C9.2.2.2.2.2.1
  exact va_mmax C9.1 C9.2.1 (C9.2.2.1.trans hl.1.symm) C9.2.2.2.2.1 (hts _ hC.1) (hts _ hC.2.1) (hts _ hC.2.2.1) (hts _ hC.2.2.2) hf hlo hc hs hdg (k p e s m args below meth c H locs ls C9 hS hE hl)
theorem V_mmin {index : Nat} {x y : Int32} (hC : CM own index Lib.Math.min.name Lib.Math.min.code) (hdg : decode cc pc = .ok (.invokestatic index, 3)) (hf : 1 ≤ R.frames) (hlo : (st.map fun v => v.category).sum + 13 ≤ R.locals) (hc : cells ≤ R.cells) (hs : slots ≤ R.slots) (k : V D s0 own mn cc nL ret hh l R Z (pc + 3) lo (.int (if y < x then y else x) :: st) G cells slots) : V D s0 own mn cc nL ret hh l R Z pc lo (.int y :: .int x :: st) G cells slots := by
  intro p e s m args below meth c H locs ls C9 hS hE hl
  have hts := C9.2.2.2.2.2.1
  exact va_mmin C9.1 C9.2.1 (C9.2.2.1.trans hl.1.symm) C9.2.2.2.2.1 (hts _ hC.1) (hts _ hC.2.1) (hts _ hC.2.2.1) (hts _ hC.2.2.2) hf hlo hc hs hdg (k p e s m args below meth c H locs ls C9 hS hE hl)
end VR
