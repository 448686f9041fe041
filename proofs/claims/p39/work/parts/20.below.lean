/-! what lies below: static arrays, texts; rows over them; String.indexOf, String.charAt -/
abbrev FLC : List Cond := flatC (Jvm.Cond.and given_1 narrow_1)
theorem fl_mem {w : Cond} (i : Nat) (h : FLC[i]? = some w) : w ∈ FLC := List.mem_of_getElem? h
theorem bA_out {s0 : State} : ∀ a : Nat, a < s0.heap.size → ¬ bA s0 a := fun a ha q => absurd ha (Nat.not_lt.mpr q)
theorem S0.row {s0 : State} (h : S0 s0) : ∃ b : Nat, (∀ w ∈ lw_tbl, w.before #[Value.ref b] s0 = true) ∧ ∀ w ∈ FLC, w.before #[Value.ref b] s0 = true := by
  obtain ⟨b, h1, h2⟩ := h
  exact ⟨b, h1, flat_of_before _ h2⟩
theorem Fr.z {s0 s : State} (hF : Fr s0 s s.heap) {C n d : String} {v : Value} (h : va_Z C n d v (bA s0) s0 s0.heap) : va_Z C n d v (bA s0) s s.heap := va_Z.moved hF.2.1.alike (h.kept (fun a ha _ => hF.2.2.2 a ha))
theorem Fr.t {s0 s : State} (hF : Fr s0 s s.heap) {ty : FieldType} {t N : Nat} {f : Nat → Value} (h : va_T ty t N f (bA s0) s0 s0.heap) : va_T ty t N f (bA s0) s s.heap := va_T.moved hF.2.1.alike (h.kept (fun a ha _ => hF.2.2.2 a ha))
theorem Fr.of {s0 s : State} (hF : Fr s0 s s.heap) {o n d : String} {v : Value} {t : Nat} (h : va_OF o n d v t (bA s0) s0 s0.heap) : va_OF o n d v t (bA s0) s s.heap := va_OF.moved hF.2.1.alike (h.kept (fun a ha _ => hF.2.2.2 a ha))
theorem Fr.o {s0 s : State} (hF : Fr s0 s s.heap) {C : String} {t : Nat} (h : va_O C t (bA s0) s0 s0.heap) : va_O C t (bA s0) s s.heap := va_O.moved hF.2.1.alike (h.kept (fun a ha _ => hF.2.2.2 a ha))
section VB
variable {D : va_G} {s0 : State} {own mn : String} {cc : ByteArray} {nL : Nat} {ret : Option FieldType} {hh : List (Nat × Nat × Nat × Nat)} {l : Launch} {R : Room} {Z : ZT} {pc : Nat} {lo : List (Nat × Value)} {st : List Value} {G : GH} {cells slots : Nat}
theorem V_ldcI {index : Nat} {v : Int32} (hw : Cond.constant own index v ∈ WT) (hdg : decode cc pc = .ok (.ldc index, 2)) (k : V D s0 own mn cc nL ret hh l R Z (pc + 2) lo (.int v :: st) G cells slots) : V D s0 own mn cc nL ret hh l R Z pc lo st G cells slots := fun p e s m args below meth c H locs ls C9 hS hE hl => lv_ldc C9.1 C9.2.1 C9.2.2.2.2.1 (C9.2.2.2.2.2.1 _ hw) hdg (k p e s m args below meth c H locs ls C9 hS hE hl)
theorem V_gst {index : Nat} {C n d : String} {v : Value} (hZ : va_Z C n d v (bA s0) s0 s0.heap) (hlink : Cond.fieldLink own index C n d ∈ WT) (hdg : decode cc pc = .ok (.getstatic index, 3)) (k : V D s0 own mn cc nL ret hh l R Z (pc + 3) lo (v :: st) G cells slots) : V D s0 own mn cc nL ret hh l R Z pc lo st G cells slots := fun p e s m args below meth c H locs ls C9 hS hE hl => va_gets C9.1 C9.2.1 (C9.2.2.2.2.2.2.2.2.2.1.z hZ) hS C9.2.2.2.2.1 (C9.2.2.2.2.2.1 _ hlink) (fun _ h => h) hdg (k p e s m args below meth c H locs ls C9 hS hE hl)

theorem V_ti {t N j : Nat} {f : Nat → Int32} {i : Int32} (hT : va_T .int t N (fun j => .int (f j)) (bA s0) s0 s0.heap) (hi : i = nI j) (hj : j < N) (hN : N < 2147483648) (hdg : decode cc pc = .ok (.iaload, 1)) (k : V D s0 own mn cc nL ret hh l R Z (pc + 1) lo (.int (f j) :: st) G cells slots) : V D s0 own mn cc nL ret hh l R Z pc lo (.int i :: .ref t :: st) G cells slots := by
  intro p e s m args below meth c H locs ls C9 hS hE hl
  subst hi
  exact va_ti C9.1 C9.2.1 (C9.2.2.2.2.2.2.2.2.2.1.t hT) hS (vp_in_nI hj hN) (by rw [nI_clamp (Nat.lt_trans hj hN)]) hdg (k p e s m args below meth c H locs ls C9 hS hE hl)
theorem V_tlen {t N : Nat} {ty : FieldType} {f : Nat → Value} (hT : va_T ty t N f (bA s0) s0 s0.heap) (hdg : decode cc pc = .ok (.arraylength, 1)) (k : V D s0 own mn cc nL ret hh l R Z (pc + 1) lo (.int (nI N) :: st) G cells slots) : V D s0 own mn cc nL ret hh l R Z pc lo (.ref t :: st) G cells slots := fun p e s m args below meth c H locs ls C9 hS hE hl => va_tlen C9.1 C9.2.1 (C9.2.2.2.2.2.2.2.2.2.1.t hT) hS rfl hdg (k p e s m args below meth c H locs ls C9 hS hE hl)
end VB
theorem S0.cs {s0 : State} (h : S0 s0) : va_Z "java/lang/String" "COMPACT_STRINGS" "Z" (.int 1) (bA s0) s0 s0.heap := by
  obtain ⟨b, g1, g2⟩ := h.row
  exact va_Zof (g1 _ (List.mem_of_getElem? (i := 256) (by decide +kernel))) (g1 _ (List.mem_of_getElem? (i := 15) (by decide +kernel))) (va_eqt (g2 _ (fl_mem 4 (by decide +kernel)))) bA_out
theorem tr_fr {D : va_G} {s0 : State} {l : Launch} {y : MethodName} {cc : ByteArray} {nL : Nat} {ret : Option FieldType} {d mc ms : Nat} {as : List Value} {G : GH} {Post : Option Value → GH → Prop} {PX : String → GH → Prop} (k : S0 s0 → Tri D s0 l y cc nL ret d mc ms as G Post PX) : Tri D s0 l y cc nL ret d mc ms as G Post PX := fun p e ha hc hk s m args below hf happ hP hK => k hP.2.1.1 p e ha hc hk s m args below hf happ hP hK
theorem fb_J5_18 : Cond.fieldLink RJ5 18 "java/lang/String" "COMPACT_STRINGS" "Z" ∈ WT := (wt_mem 255 (by decide +kernel) (by decide +kernel))
theorem fl_J5_15 : FL RJ5 15 8 0 := ⟨RJ4, TJ4, 4, tyJ4, RJ5, rfl, by decide, uw_J4, tyJ4_ok, nmJ4, (wt_mem 264 (by decide +kernel) (by decide +kernel)), by decide +kernel⟩
theorem fl_J5_22 : FL RJ5 22 8 1 := ⟨RJ4, TJ4, 4, tyJ4, RJ5, rfl, by decide, uw_J4, tyJ4_ok, nmJ4, (wt_mem 265 (by decide +kernel) (by decide +kernel)), by decide +kernel⟩
theorem ab_cl : Cond.arrayClass .byte ∈ WT := (wt_mem 275 (by decide +kernel) (by decide +kernel))
theorem lc_7 : Cond.constant RL 7 69069 ∈ WT := (wt_mem 408 (by decide +kernel) (by decide +kernel))
theorem lc_8 : Cond.constant RL 8 1103515245 ∈ WT := (wt_mem 409 (by decide +kernel) (by decide +kernel))
