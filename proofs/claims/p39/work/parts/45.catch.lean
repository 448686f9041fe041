/-! the law's wrappers: what the face throws is caught -/
section V45
variable {D : va_G} {s0 : State} {own mn : String} {cc : ByteArray} {nL : Nat} {ret : Option FieldType} {hh : List (Nat × Nat × Nat × Nat)} {l : Launch} {R : Room} {Z : ZT} {pc : Nat} {lo : List (Nat × Value)} {st : List Value} {G : GH} {cells slots : Nat} {B : Nat} {A : AT} {σ : Sg}
def TriH (D : va_G) (s0 : State) (l : Launch) (y : MethodName) (cc : ByteArray) (nL : Nat) (ret : Option FieldType) (hh : List (Nat × Nat × Nat × Nat)) (d mc ms : Nat) (as : List Value) (G : GH) (Post : Option Value → GH → Prop) (PX : String → GH → Prop) : Prop :=
  vx_Met l y (.codeWith y cc nL ret hh :: WT) (rmd d mc ms) (PcV D s0 as G) (QcV D s0 Post) (XcV D s0 PX) mc ms (bA s0)
theorem TriH.ofV {y : MethodName} {d mc ms : Nat} {as : List Value} {Post : Option Value → GH → Prop} {PX : String → GH → Prop} (hy : plainName y.cls = true) (hc : y.cls = own) (hn : y.name = mn) (hlen : (lg_sl as).length ≤ nL) (k : V D s0 own mn cc nL ret hh l (rmd d mc ms) (Zm D s0 mc ms Post PX) 0 (lv_args 0 as) [] G 0 0) : TriH D s0 l y cc nL ret hh d mc ms as G Post PX := by
  refine vx_ofWH (hh := hh) (cc := cc) (maxL := nL) (ret := ret) hy rfl ?_
  intro p e s m args below meth c s₁ B hml hv
  obtain ⟨rfl, hF, hK, hE⟩ := hv
  have hts := atoms_spec (ws := .codeWith y cc nL ret hh :: WT) B.pre
  have hown : s.vm.findClass y.cls = some m.cls := findClass_of_methodNamed B.named
  have hnm := (name_of_methodNamed B.named B.method).1
  have ht : c.exceptionTable.toList = tableOf hh := vx_table (x := y) B (hts _ List.mem_cons_self)
  rw [lg_entry_eq]
  exact k p e s m _ below meth c s.heap [] _ ⟨B.exec, B.bytes, hml, B.returns, hc ▸ hown, fun w hw => hts w (List.mem_cons_of_mem _ hw), B.notSynchronized, hnm.trans hn, ht, hF, hK⟩ va_S.rf hE (lv_entry as hlen)
theorem S0.nc {C T : String} {i : Nat} (h : S0 s0) (hi : FLC[i]? = some (Cond.not (.castable C T))) : va_Nc C T s0 := by
  obtain ⟨b, g1, g2⟩ := h.row
  exact va_Nc.of (g2 _ (List.mem_of_getElem? hi))
theorem Fr.cast {s0 s : State} {H : Heap} {args : Array Value} {C T : String} (h : Fr s0 s H) (hm : Cond.castable C T ∈ lw_tbl) : (Cond.castable C T).before args s = true := va_tabs (A := #[]) rfl (rfl : (s0.setVm s.vm).vm = s.vm) ((Cond.castable_setVm h.2.1.alike C T).trans (h.1.nw hm rfl))
theorem VX_catch {E name : String} {pre suf : List (Nat × Nat × Nat × Nat)} {x : Nat × Nat × Nat × Nat} (hs : hh = pre ++ x :: suf) (hpass : ∀ z, z ∈ pre → ∃ (nm : String) (i : Nat), z.2.2.2 ≠ 0 ∧ Cond.classLink own z.2.2.2 nm ∈ WT ∧ FLC[i]? = some (Cond.not (.castable E nm))) (hx : covers ⟨x.1, x.2.1, x.2.2.1, x.2.2.2⟩ pc = true) (h0 : x.2.2.2 ≠ 0) (hlk : Cond.classLink own x.2.2.2 name ∈ WT) (hcast : Cond.castable E name ∈ lw_tbl) (kk : ∀ q : Nat, V D s0 own mn cc nL ret hh l R Z x.2.2.1 lo [.ref q] G cells slots) : VX D s0 own mn cc nL ret hh l R Z pc lo st E G cells slots := by
  intro p e s m args below meth c H locs ls q ce C9 hS hE hl hq hv hcl
  have hts := C9.2.2.2.2.2.1
  have ht : c.exceptionTable.toList = tableOf hh := C9.2.2.2.2.2.2.2.2.1
  have hF := C9.2.2.2.2.2.2.2.2.2.1
  refine vx_catch C9.2.2.2.2.1 (tableOf pre) ⟨x.1, x.2.1, x.2.2.1, x.2.2.2⟩ (tableOf suf) (by rw [ht, hs]; simp [tableOf]) (fun z hz => ?_) hx h0 (hts _ hlk) (hF.cast hcast) hq hv hcl (kk q p e s m args below meth c H locs ls C9 hS hE hl)
  obtain ⟨z', hz', rfl⟩ := List.mem_map.mp hz
  obtain ⟨nm, i, h1, h2, h3⟩ := hpass z' hz'
  exact Or.inr ⟨h1, nm, hts _ h2, va_Nc.moved hF.2.1.alike (S0.nc hF.1 h3)⟩
end V45
theorem kl_67 : Cond.classLink RL 67 "java/lang/UnsupportedOperationException" ∈ WT := (wt_mem 543 (by decide +kernel) (by decide +kernel))
theorem kc_67 : Cond.castable "java/lang/UnsupportedOperationException" "java/lang/UnsupportedOperationException" ∈ lw_tbl := List.mem_of_getElem? (i := 448) (by decide +kernel)
