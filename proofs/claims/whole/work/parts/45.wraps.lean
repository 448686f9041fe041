/-! the law's wrappers: what the face throws is caught -/
section V45
variable {D : va_G} {s0 : State} {own mn : String} {cc : ByteArray} {nL : Nat} {ret : Option FieldType} {hh : List (Nat × Nat × Nat × Nat)} {l : Launch} {R : Room} {Z : ZT} {pc : Nat} {lo : List (Nat × Value)} {st : List Value} {G : GH} {cells slots : Nat} {B : Nat} {A : AT} {σ : Sg}
def TriH (D : va_G) (s0 : State) (l : Launch) (y : MethodName) (cc : ByteArray) (nL : Nat) (ret : Option FieldType) (hh : List (Nat × Nat × Nat × Nat)) (d mc ms : Nat) (as : List Value) (G : GH) (Post : Option Value → GH → Prop) (PX : String → GH → Prop) : Prop :=
  vx_Met l y (.codeWith y cc nL ret hh :: WT) (rmd d mc ms) (PcV D s0 as G) (QcV D s0 Post) (XcV D s0 PX) mc ms (bA s0)
theorem TriH.ofV {y : MethodName} {d mc ms : Nat} {as : List Value} {Post : Option Value → GH → Prop} {PX : String → GH → Prop} (hy : plainName y.cls = true) (hc : y.cls = own) (hn : y.name = mn) (hlen : (lg_sl as).length ≤ nL) (k : V D s0 own mn cc nL ret hh l (rmd d mc ms) (Zm D s0 mc ms Post PX) 0 (lv_args 0 as) [] G 0 0) : TriH D s0 l y cc nL ret hh d mc ms as G Post PX := by
  refine vx_ofWH (hh := hh) (cc := cc) (maxL := nL) (ret := ret) hy rfl ?_
  intro p e s m args below meth c s₁ B hml hv
  obtain ⟨rfl, hF, hK, hE⟩ := hv
  have hts := atoms_spec (ws := .codeWith y cc nL ret hh :: WT) B.pre
  have hown : s.vm.findClass y.cls = some m.cls := findClass_of_methodNamed B.named
  have hnm := (name_of_methodNamed B.named B.method).1
  have ht : c.exceptionTable.toList = tableOf hh := vx_table (x := y) B (hts _ List.mem_cons_self)
  rw [lg_entry_eq]
  exact k p e s m _ below meth c s.heap [] _ ⟨B.exec, B.bytes, hml, B.returns, hc ▸ hown, fun w hw => hts w (List.mem_cons_of_mem _ hw), B.notSynchronized, hnm.trans hn, ht, hF, hK⟩ va_S.rf hE (lv_entry as hlen)
theorem S0.nc {C T : String} {i : Nat} (h : S0 s0) (hi : FLC[i]? = some (Cond.not (.castable C T))) : va_Nc C T s0 := by
  obtain ⟨b, g1, g2⟩ := h.row
  exact va_Nc.of (g2 _ (List.mem_of_getElem? hi))
theorem Fr.cast {s0 s : State} {H : Heap} {args : Array Value} {C T : String} (h : Fr s0 s H) (hm : Cond.castable C T ∈ lw_tbl) : (Cond.castable C T).before args s = true := va_tabs (A := #[]) rfl (rfl : (s0.setVm s.vm).vm = s.vm) ((Cond.castable_setVm h.2.1.alike C T).trans (h.1.nw hm rfl))
theorem VX_catch {E name : String} {pre suf : List (Nat × Nat × Nat × Nat)} {x : Nat × Nat × Nat × Nat} (hs : hh = pre ++ x :: suf) (hpass : ∀ z, z ∈ pre → ∃ (nm : String) (i : Nat), z.2.2.2 ≠ 0 ∧ Cond.classLink own z.2.2.2 nm ∈ WT ∧ FLC[i]? = some (Cond.not (.castable E nm))) (hx : covers ⟨x.1, x.2.1, x.2.2.1, x.2.2.2⟩ pc = true) (h0 : x.2.2.2 ≠ 0) (hlk : Cond.classLink own x.2.2.2 name ∈ WT) (hcast : Cond.castable E name ∈ lw_tbl) (kk : ∀ q : Nat, V D s0 own mn cc nL ret hh l R Z x.2.2.1 lo [.ref q] G cells slots) : VX D s0 own mn cc nL ret hh l R Z pc lo st E G cells slots := by
  intro p e s m args below meth c H locs ls q ce C9 hS hE hl hq hv hcl
  have hts := C9.2.2.2.2.2.1
  have ht : c.exceptionTable.toList = tableOf hh := C9.2.2.2.2.2.2.2.2.1
  have hF := C9.2.2.2.2.2.2.2.2.2.1
  refine vx_catch C9.2.2.2.2.1 (tableOf pre) ⟨x.1, x.2.1, x.2.2.1, x.2.2.2⟩ (tableOf suf) (by rw [ht, hs]; simp [tableOf]) (fun z hz => ?_) hx h0 (hts _ hlk) (hF.cast hcast) hq hv hcl (kk q p e s m args below meth c H locs ls C9 hS hE hl)
  obtain ⟨z', hz', rfl⟩ := List.mem_map.mp hz
  obtain ⟨nm, i, h1, h2, h3⟩ := hpass z' hz'
  exact Or.inr ⟨h1, nm, hts _ h2, va_Nc.moved hF.2.1.alike (S0.nc hF.1 h3)⟩
/-- a number into the law's own arrays -/
def sl (σ : Sg) (v : Int64) : Sg := (σ.1, fun j => if j = 0 then v else σ.2.1 j, σ.2.2)
def sd (σ : Sg) (v : UInt64) : Sg := (σ.1, σ.2.1, fun j => if j = 0 then v else σ.2.2.1 j, σ.2.2.2)
theorem VA_30 {v : Int64} (hdg : decode cc pc = .ok (.lastore, 1)) (hA : AOK B A) (kk : V D s0 own mn cc nL ret hh l R Z (pc + 1) lo st (HP A (sl σ v)) cells slots) : V D s0 own mn cc nL ret hh l R Z pc lo (.long v :: .int 0 :: .ref (A 30 0 0) :: st) (HP A σ) cells slots := by
  refine V_last hdg (hp30 hA) (vp_in_nI (n := 0) (N := 1) (by decide) (by decide)) ?_
  refine V.eqG (HP_put (σ' := sl σ v) hA vl_30 ?_ (fun kd' k' i' hv hn => ?_) rfl) kk
  · show (Sum.inr (FieldType.long, 1, fun j => Value.long (if j = 0 then v else σ.2.1 j)) : EC) = _
    refine congrArg (fun z => (Sum.inr (FieldType.long, 1, z) : EC)) (funext fun j => ?_)
    show _ = updV (fun j => Value.long (σ.2.1 j)) 0 (Value.long v) j
    unfold updV
    split <;> rfl
  · unfold cellT sl
    split <;> first | rfl | skip
    exact absurd (by simpa [vl] using hv) (fun z => hn ⟨rfl, z⟩)
theorem VA_31 {v : UInt64} (hdg : decode cc pc = .ok (.dastore, 1)) (hA : AOK B A) (kk : V D s0 own mn cc nL ret hh l R Z (pc + 1) lo st (HP A (sd σ v)) cells slots) : V D s0 own mn cc nL ret hh l R Z pc lo (.double v :: .int 0 :: .ref (A 31 0 0) :: st) (HP A σ) cells slots := by
  refine V_dast hdg (hp31 hA) (vp_in_nI (n := 0) (N := 1) (by decide) (by decide)) ?_
  refine V.eqG (HP_put (σ' := sd σ v) hA vl_31 ?_ (fun kd' k' i' hv hn => ?_) rfl) kk
  · show (Sum.inr (FieldType.double, 1, fun j => Value.double (if j = 0 then v else σ.2.2.1 j)) : EC) = _
    refine congrArg (fun z => (Sum.inr (FieldType.double, 1, z) : EC)) (funext fun j => ?_)
    show _ = updV (fun j => Value.double (σ.2.2.1 j)) 0 (Value.double v) j
    unfold updV
    split <;> rfl
  · unfold cellT sd
    split <;> first | rfl | skip
    exact absurd (by simpa [vl] using hv) (fun z => hn ⟨rfl, z⟩)
end V45

theorem kl_13 : Cond.classLink RL 13 "java/lang/UnsupportedOperationException" ∈ WT := (wt_mem 440 (by decide +kernel) (by decide +kernel))
theorem kc_13 : Cond.castable "java/lang/UnsupportedOperationException" "java/lang/UnsupportedOperationException" ∈ lw_tbl := List.mem_of_getElem? (i := 467) (by decide +kernel)
theorem kl_53 : Cond.classLink RL 53 "java/lang/IndexOutOfBoundsException" ∈ WT := (wt_mem 727 (by decide +kernel) (by decide +kernel))
theorem kc_53 : Cond.castable "java/lang/IndexOutOfBoundsException" "java/lang/IndexOutOfBoundsException" ∈ lw_tbl := List.mem_of_getElem? (i := 759) (by decide +kernel)
theorem kl_55 : Cond.classLink RL 55 "java/lang/IllegalArgumentException" ∈ WT := (wt_mem 751 (by decide +kernel) (by decide +kernel))
theorem kc_55 : Cond.castable "java/lang/IllegalArgumentException" "java/lang/IllegalArgumentException" ∈ lw_tbl := List.mem_of_getElem? (i := 773) (by decide +kernel)
theorem kl_75 : Cond.classLink RL 75 "java/util/NoSuchElementException" ∈ WT := (wt_mem 846 (by decide +kernel) (by decide +kernel))
theorem kc_75 : Cond.castable "java/util/NoSuchElementException" "java/util/NoSuchElementException" ∈ lw_tbl := List.mem_of_getElem? (i := 858) (by decide +kernel)
theorem kl_88 : Cond.classLink RL 88 "java/lang/IllegalStateException" ∈ WT := (wt_mem 899 (by decide +kernel) (by decide +kernel))
theorem kc_88 : Cond.castable "java/lang/IllegalStateException" "java/lang/IllegalStateException" ∈ lw_tbl := List.mem_of_getElem? (i := 906) (by decide +kernel)
theorem kl_107 : Cond.classLink RL 107 "java/lang/ArithmeticException" ∈ WT := (wt_mem 1345 (by decide +kernel) (by decide +kernel))
theorem kc_107 : Cond.castable "java/lang/ArithmeticException" "java/lang/ArithmeticException" ∈ lw_tbl := List.mem_of_getElem? (i := 1357) (by decide +kernel)
theorem dL_house_0 : decode cL_house 0 = .ok (.aload_n 3, 1) := by decide +kernel
theorem dL_house_1 : decode cL_house 1 = .ok (.iconst 0, 1) := by decide +kernel
theorem dL_house_2 : decode cL_house 2 = .ok (.aload_n 0, 1) := by decide +kernel
theorem dL_house_3 : decode cL_house 3 = .ok (.iload_n 1, 1) := by decide +kernel
theorem dL_house_4 : decode cL_house 4 = .ok (.iload_n 2, 1) := by decide +kernel
theorem dL_house_5 : decode cL_house 5 = .ok (.invokevirtual 7, 3) := by decide +kernel
theorem dL_house_8 : decode cL_house 8 = .ok (.i2l, 1) := by decide +kernel
theorem dL_house_9 : decode cL_house 9 = .ok (.lastore, 1) := by decide +kernel
theorem dL_house_10 : decode cL_house 10 = .ok (.goto 7, 3) := by decide +kernel
theorem dL_house_13 : decode cL_house 13 = .ok (.astore 4, 2) := by decide +kernel
theorem dL_house_15 : decode cL_house 15 = .ok (.iconst 1, 1) := by decide +kernel
theorem dL_house_16 : decode cL_house 16 = .ok (.ireturn, 1) := by decide +kernel
theorem dL_house_17 : decode cL_house 17 = .ok (.iconst 0, 1) := by decide +kernel
theorem dL_house_18 : decode cL_house 18 = .ok (.ireturn, 1) := by decide +kernel
theorem dL_order_0 : decode cL_order 0 = .ok (.aload_n 3, 1) := by decide +kernel
theorem dL_order_1 : decode cL_order 1 = .ok (.iconst 0, 1) := by decide +kernel
theorem dL_order_2 : decode cL_order 2 = .ok (.aload_n 0, 1) := by decide +kernel
theorem dL_order_3 : decode cL_order 3 = .ok (.iload_n 1, 1) := by decide +kernel
theorem dL_order_4 : decode cL_order 4 = .ok (.iload_n 2, 1) := by decide +kernel
theorem dL_order_5 : decode cL_order 5 = .ok (.invokevirtual 15, 3) := by decide +kernel
theorem dL_order_8 : decode cL_order 8 = .ok (.i2l, 1) := by decide +kernel
theorem dL_order_9 : decode cL_order 9 = .ok (.lastore, 1) := by decide +kernel
theorem dL_order_10 : decode cL_order 10 = .ok (.goto 7, 3) := by decide +kernel
theorem dL_order_13 : decode cL_order 13 = .ok (.astore 4, 2) := by decide +kernel
theorem dL_order_15 : decode cL_order 15 = .ok (.iconst 1, 1) := by decide +kernel
theorem dL_order_16 : decode cL_order 16 = .ok (.ireturn, 1) := by decide +kernel
theorem dL_order_17 : decode cL_order 17 = .ok (.iconst 0, 1) := by decide +kernel
theorem dL_order_18 : decode cL_order 18 = .ok (.ireturn, 1) := by decide +kernel
theorem dL_carrier_0 : decode cL_carrier 0 = .ok (.aload_n 2, 1) := by decide +kernel
theorem dL_carrier_1 : decode cL_carrier 1 = .ok (.iconst 0, 1) := by decide +kernel
theorem dL_carrier_2 : decode cL_carrier 2 = .ok (.aload_n 0, 1) := by decide +kernel
theorem dL_carrier_3 : decode cL_carrier 3 = .ok (.iload_n 1, 1) := by decide +kernel
theorem dL_carrier_4 : decode cL_carrier 4 = .ok (.invokevirtual 18, 3) := by decide +kernel
theorem dL_carrier_7 : decode cL_carrier 7 = .ok (.i2l, 1) := by decide +kernel
theorem dL_carrier_8 : decode cL_carrier 8 = .ok (.lastore, 1) := by decide +kernel
theorem dL_carrier_9 : decode cL_carrier 9 = .ok (.goto 6, 3) := by decide +kernel
theorem dL_carrier_12 : decode cL_carrier 12 = .ok (.astore_n 3, 1) := by decide +kernel
theorem dL_carrier_13 : decode cL_carrier 13 = .ok (.iconst 1, 1) := by decide +kernel
theorem dL_carrier_14 : decode cL_carrier 14 = .ok (.ireturn, 1) := by decide +kernel
theorem dL_carrier_15 : decode cL_carrier 15 = .ok (.iconst 0, 1) := by decide +kernel
theorem dL_carrier_16 : decode cL_carrier 16 = .ok (.ireturn, 1) := by decide +kernel
theorem dL_load_0 : decode cL_load 0 = .ok (.aload_n 2, 1) := by decide +kernel
theorem dL_load_1 : decode cL_load 1 = .ok (.iconst 0, 1) := by decide +kernel
theorem dL_load_2 : decode cL_load 2 = .ok (.aload_n 0, 1) := by decide +kernel
theorem dL_load_3 : decode cL_load 3 = .ok (.iload_n 1, 1) := by decide +kernel
theorem dL_load_4 : decode cL_load 4 = .ok (.invokevirtual 22, 3) := by decide +kernel
theorem dL_load_7 : decode cL_load 7 = .ok (.i2l, 1) := by decide +kernel
theorem dL_load_8 : decode cL_load 8 = .ok (.lastore, 1) := by decide +kernel
theorem dL_load_9 : decode cL_load 9 = .ok (.goto 6, 3) := by decide +kernel
theorem dL_load_12 : decode cL_load 12 = .ok (.astore_n 3, 1) := by decide +kernel
theorem dL_load_13 : decode cL_load 13 = .ok (.iconst 1, 1) := by decide +kernel
theorem dL_load_14 : decode cL_load 14 = .ok (.ireturn, 1) := by decide +kernel
theorem dL_load_15 : decode cL_load 15 = .ok (.iconst 0, 1) := by decide +kernel
theorem dL_load_16 : decode cL_load 16 = .ok (.ireturn, 1) := by decide +kernel
theorem dL_drive_0 : decode cL_drive 0 = .ok (.aload_n 2, 1) := by decide +kernel
theorem dL_drive_1 : decode cL_drive 1 = .ok (.iconst 0, 1) := by decide +kernel
theorem dL_drive_2 : decode cL_drive 2 = .ok (.aload_n 0, 1) := by decide +kernel
theorem dL_drive_3 : decode cL_drive 3 = .ok (.iload_n 1, 1) := by decide +kernel
theorem dL_drive_4 : decode cL_drive 4 = .ok (.invokevirtual 25, 3) := by decide +kernel
theorem dL_drive_7 : decode cL_drive 7 = .ok (.i2l, 1) := by decide +kernel
theorem dL_drive_8 : decode cL_drive 8 = .ok (.lastore, 1) := by decide +kernel
theorem dL_drive_9 : decode cL_drive 9 = .ok (.goto 6, 3) := by decide +kernel
theorem dL_drive_12 : decode cL_drive 12 = .ok (.astore_n 3, 1) := by decide +kernel
theorem dL_drive_13 : decode cL_drive 13 = .ok (.iconst 1, 1) := by decide +kernel
theorem dL_drive_14 : decode cL_drive 14 = .ok (.ireturn, 1) := by decide +kernel
theorem dL_drive_15 : decode cL_drive 15 = .ok (.iconst 0, 1) := by decide +kernel
theorem dL_drive_16 : decode cL_drive 16 = .ok (.ireturn, 1) := by decide +kernel
theorem dL_carry_0 : decode cL_carry 0 = .ok (.aload_n 3, 1) := by decide +kernel
theorem dL_carry_1 : decode cL_carry 1 = .ok (.iconst 0, 1) := by decide +kernel
theorem dL_carry_2 : decode cL_carry 2 = .ok (.aload_n 0, 1) := by decide +kernel
theorem dL_carry_3 : decode cL_carry 3 = .ok (.iload_n 1, 1) := by decide +kernel
theorem dL_carry_4 : decode cL_carry 4 = .ok (.iload_n 2, 1) := by decide +kernel
theorem dL_carry_5 : decode cL_carry 5 = .ok (.invokevirtual 28, 3) := by decide +kernel
theorem dL_carry_8 : decode cL_carry 8 = .ok (.i2l, 1) := by decide +kernel
theorem dL_carry_9 : decode cL_carry 9 = .ok (.lastore, 1) := by decide +kernel
theorem dL_carry_10 : decode cL_carry 10 = .ok (.goto 7, 3) := by decide +kernel
theorem dL_carry_13 : decode cL_carry 13 = .ok (.astore 4, 2) := by decide +kernel
theorem dL_carry_15 : decode cL_carry 15 = .ok (.iconst 1, 1) := by decide +kernel
theorem dL_carry_16 : decode cL_carry 16 = .ok (.ireturn, 1) := by decide +kernel
theorem dL_carry_17 : decode cL_carry 17 = .ok (.iconst 0, 1) := by decide +kernel
theorem dL_carry_18 : decode cL_carry 18 = .ok (.ireturn, 1) := by decide +kernel
theorem dL_bone_0 : decode cL_bone 0 = .ok (.aload_n 1, 1) := by decide +kernel
theorem dL_bone_1 : decode cL_bone 1 = .ok (.iconst 0, 1) := by decide +kernel
theorem dL_bone_2 : decode cL_bone 2 = .ok (.aload_n 0, 1) := by decide +kernel
theorem dL_bone_3 : decode cL_bone 3 = .ok (.invokevirtual 31, 3) := by decide +kernel
theorem dL_bone_6 : decode cL_bone 6 = .ok (.i2l, 1) := by decide +kernel
theorem dL_bone_7 : decode cL_bone 7 = .ok (.lastore, 1) := by decide +kernel
theorem dL_bone_8 : decode cL_bone 8 = .ok (.goto 6, 3) := by decide +kernel
theorem dL_bone_11 : decode cL_bone 11 = .ok (.astore_n 2, 1) := by decide +kernel
theorem dL_bone_12 : decode cL_bone 12 = .ok (.iconst 1, 1) := by decide +kernel
theorem dL_bone_13 : decode cL_bone 13 = .ok (.ireturn, 1) := by decide +kernel
theorem dL_bone_14 : decode cL_bone 14 = .ok (.iconst 0, 1) := by decide +kernel
theorem dL_bone_15 : decode cL_bone 15 = .ok (.ireturn, 1) := by decide +kernel
theorem dL_bones_0 : decode cL_bones 0 = .ok (.aload_n 2, 1) := by decide +kernel
theorem dL_bones_1 : decode cL_bones 1 = .ok (.iconst 0, 1) := by decide +kernel
theorem dL_bones_2 : decode cL_bones 2 = .ok (.aload_n 0, 1) := by decide +kernel
theorem dL_bones_3 : decode cL_bones 3 = .ok (.iload_n 1, 1) := by decide +kernel
theorem dL_bones_4 : decode cL_bones 4 = .ok (.invokevirtual 35, 3) := by decide +kernel
theorem dL_bones_7 : decode cL_bones 7 = .ok (.i2l, 1) := by decide +kernel
theorem dL_bones_8 : decode cL_bones 8 = .ok (.lastore, 1) := by decide +kernel
theorem dL_bones_9 : decode cL_bones 9 = .ok (.goto 6, 3) := by decide +kernel
theorem dL_bones_12 : decode cL_bones 12 = .ok (.astore_n 3, 1) := by decide +kernel
theorem dL_bones_13 : decode cL_bones 13 = .ok (.iconst 1, 1) := by decide +kernel
theorem dL_bones_14 : decode cL_bones 14 = .ok (.ireturn, 1) := by decide +kernel
theorem dL_bones_15 : decode cL_bones 15 = .ok (.iconst 0, 1) := by decide +kernel
theorem dL_bones_16 : decode cL_bones 16 = .ok (.ireturn, 1) := by decide +kernel
theorem dL_mop_0 : decode cL_mop 0 = .ok (.aload_n 2, 1) := by decide +kernel
theorem dL_mop_1 : decode cL_mop 1 = .ok (.iconst 0, 1) := by decide +kernel
theorem dL_mop_2 : decode cL_mop 2 = .ok (.aload_n 0, 1) := by decide +kernel
theorem dL_mop_3 : decode cL_mop 3 = .ok (.iload_n 1, 1) := by decide +kernel
theorem dL_mop_4 : decode cL_mop 4 = .ok (.invokevirtual 38, 3) := by decide +kernel
theorem dL_mop_7 : decode cL_mop 7 = .ok (.i2l, 1) := by decide +kernel
theorem dL_mop_8 : decode cL_mop 8 = .ok (.lastore, 1) := by decide +kernel
theorem dL_mop_9 : decode cL_mop 9 = .ok (.goto 6, 3) := by decide +kernel
theorem dL_mop_12 : decode cL_mop 12 = .ok (.astore_n 3, 1) := by decide +kernel
theorem dL_mop_13 : decode cL_mop 13 = .ok (.iconst 1, 1) := by decide +kernel
theorem dL_mop_14 : decode cL_mop 14 = .ok (.ireturn, 1) := by decide +kernel
theorem dL_mop_15 : decode cL_mop 15 = .ok (.iconst 0, 1) := by decide +kernel
theorem dL_mop_16 : decode cL_mop 16 = .ok (.ireturn, 1) := by decide +kernel
theorem dL_pay_0 : decode cL_pay 0 = .ok (.aload_n 3, 1) := by decide +kernel
theorem dL_pay_1 : decode cL_pay 1 = .ok (.iconst 0, 1) := by decide +kernel
theorem dL_pay_2 : decode cL_pay 2 = .ok (.aload_n 0, 1) := by decide +kernel
theorem dL_pay_3 : decode cL_pay 3 = .ok (.iload_n 1, 1) := by decide +kernel
theorem dL_pay_4 : decode cL_pay 4 = .ok (.iload_n 2, 1) := by decide +kernel
theorem dL_pay_5 : decode cL_pay 5 = .ok (.invokevirtual 41, 3) := by decide +kernel
theorem dL_pay_8 : decode cL_pay 8 = .ok (.i2l, 1) := by decide +kernel
theorem dL_pay_9 : decode cL_pay 9 = .ok (.lastore, 1) := by decide +kernel
theorem dL_pay_10 : decode cL_pay 10 = .ok (.goto 7, 3) := by decide +kernel
theorem dL_pay_13 : decode cL_pay 13 = .ok (.astore 4, 2) := by decide +kernel
theorem dL_pay_15 : decode cL_pay 15 = .ok (.iconst 1, 1) := by decide +kernel
theorem dL_pay_16 : decode cL_pay 16 = .ok (.ireturn, 1) := by decide +kernel
theorem dL_pay_17 : decode cL_pay 17 = .ok (.iconst 0, 1) := by decide +kernel
theorem dL_pay_18 : decode cL_pay 18 = .ok (.ireturn, 1) := by decide +kernel
theorem dL_shoe_0 : decode cL_shoe 0 = .ok (.aload_n 2, 1) := by decide +kernel
theorem dL_shoe_1 : decode cL_shoe 1 = .ok (.iconst 0, 1) := by decide +kernel
theorem dL_shoe_2 : decode cL_shoe 2 = .ok (.aload_n 0, 1) := by decide +kernel
theorem dL_shoe_3 : decode cL_shoe 3 = .ok (.iload_n 1, 1) := by decide +kernel
theorem dL_shoe_4 : decode cL_shoe 4 = .ok (.invokevirtual 44, 3) := by decide +kernel
theorem dL_shoe_7 : decode cL_shoe 7 = .ok (.i2l, 1) := by decide +kernel
theorem dL_shoe_8 : decode cL_shoe 8 = .ok (.lastore, 1) := by decide +kernel
theorem dL_shoe_9 : decode cL_shoe 9 = .ok (.goto 6, 3) := by decide +kernel
theorem dL_shoe_12 : decode cL_shoe 12 = .ok (.astore_n 3, 1) := by decide +kernel
theorem dL_shoe_13 : decode cL_shoe 13 = .ok (.iconst 1, 1) := by decide +kernel
theorem dL_shoe_14 : decode cL_shoe 14 = .ok (.ireturn, 1) := by decide +kernel
theorem dL_shoe_15 : decode cL_shoe 15 = .ok (.iconst 0, 1) := by decide +kernel
theorem dL_shoe_16 : decode cL_shoe 16 = .ok (.ireturn, 1) := by decide +kernel
theorem dL_days_0 : decode cL_days 0 = .ok (.aload_n 2, 1) := by decide +kernel
theorem dL_days_1 : decode cL_days 1 = .ok (.iconst 0, 1) := by decide +kernel
theorem dL_days_2 : decode cL_days 2 = .ok (.aload_n 0, 1) := by decide +kernel
theorem dL_days_3 : decode cL_days 3 = .ok (.iload_n 1, 1) := by decide +kernel
theorem dL_days_4 : decode cL_days 4 = .ok (.invokevirtual 47, 3) := by decide +kernel
theorem dL_days_7 : decode cL_days 7 = .ok (.i2l, 1) := by decide +kernel
theorem dL_days_8 : decode cL_days 8 = .ok (.lastore, 1) := by decide +kernel
theorem dL_days_9 : decode cL_days 9 = .ok (.goto 6, 3) := by decide +kernel
theorem dL_days_12 : decode cL_days 12 = .ok (.astore_n 3, 1) := by decide +kernel
theorem dL_days_13 : decode cL_days 13 = .ok (.iconst 1, 1) := by decide +kernel
theorem dL_days_14 : decode cL_days 14 = .ok (.ireturn, 1) := by decide +kernel
theorem dL_days_15 : decode cL_days 15 = .ok (.iconst 0, 1) := by decide +kernel
theorem dL_days_16 : decode cL_days 16 = .ok (.ireturn, 1) := by decide +kernel
theorem dL_houseOf_0 : decode cL_houseOf 0 = .ok (.aload_n 3, 1) := by decide +kernel
theorem dL_houseOf_1 : decode cL_houseOf 1 = .ok (.iconst 0, 1) := by decide +kernel
theorem dL_houseOf_2 : decode cL_houseOf 2 = .ok (.aload_n 0, 1) := by decide +kernel
theorem dL_houseOf_3 : decode cL_houseOf 3 = .ok (.iload_n 1, 1) := by decide +kernel
theorem dL_houseOf_4 : decode cL_houseOf 4 = .ok (.iload_n 2, 1) := by decide +kernel
theorem dL_houseOf_5 : decode cL_houseOf 5 = .ok (.invokevirtual 50, 3) := by decide +kernel
theorem dL_houseOf_8 : decode cL_houseOf 8 = .ok (.i2l, 1) := by decide +kernel
theorem dL_houseOf_9 : decode cL_houseOf 9 = .ok (.lastore, 1) := by decide +kernel
theorem dL_houseOf_10 : decode cL_houseOf 10 = .ok (.goto 11, 3) := by decide +kernel
theorem dL_houseOf_13 : decode cL_houseOf 13 = .ok (.astore 4, 2) := by decide +kernel
theorem dL_houseOf_15 : decode cL_houseOf 15 = .ok (.iconst 1, 1) := by decide +kernel
theorem dL_houseOf_16 : decode cL_houseOf 16 = .ok (.ireturn, 1) := by decide +kernel
theorem dL_houseOf_17 : decode cL_houseOf 17 = .ok (.astore 4, 2) := by decide +kernel
theorem dL_houseOf_19 : decode cL_houseOf 19 = .ok (.iconst 2, 1) := by decide +kernel
theorem dL_houseOf_20 : decode cL_houseOf 20 = .ok (.ireturn, 1) := by decide +kernel
theorem dL_houseOf_21 : decode cL_houseOf 21 = .ok (.iconst 0, 1) := by decide +kernel
theorem dL_houseOf_22 : decode cL_houseOf 22 = .ok (.ireturn, 1) := by decide +kernel
theorem dL_carrierOf_0 : decode cL_carrierOf 0 = .ok (.aload_n 3, 1) := by decide +kernel
theorem dL_carrierOf_1 : decode cL_carrierOf 1 = .ok (.iconst 0, 1) := by decide +kernel
theorem dL_carrierOf_2 : decode cL_carrierOf 2 = .ok (.aload_n 0, 1) := by decide +kernel
theorem dL_carrierOf_3 : decode cL_carrierOf 3 = .ok (.iload_n 1, 1) := by decide +kernel
theorem dL_carrierOf_4 : decode cL_carrierOf 4 = .ok (.iload_n 2, 1) := by decide +kernel
theorem dL_carrierOf_5 : decode cL_carrierOf 5 = .ok (.invokevirtual 57, 3) := by decide +kernel
theorem dL_carrierOf_8 : decode cL_carrierOf 8 = .ok (.i2l, 1) := by decide +kernel
theorem dL_carrierOf_9 : decode cL_carrierOf 9 = .ok (.lastore, 1) := by decide +kernel
theorem dL_carrierOf_10 : decode cL_carrierOf 10 = .ok (.goto 11, 3) := by decide +kernel
theorem dL_carrierOf_13 : decode cL_carrierOf 13 = .ok (.astore 4, 2) := by decide +kernel
theorem dL_carrierOf_15 : decode cL_carrierOf 15 = .ok (.iconst 1, 1) := by decide +kernel
theorem dL_carrierOf_16 : decode cL_carrierOf 16 = .ok (.ireturn, 1) := by decide +kernel
theorem dL_carrierOf_17 : decode cL_carrierOf 17 = .ok (.astore 4, 2) := by decide +kernel
theorem dL_carrierOf_19 : decode cL_carrierOf 19 = .ok (.iconst 2, 1) := by decide +kernel
theorem dL_carrierOf_20 : decode cL_carrierOf 20 = .ok (.ireturn, 1) := by decide +kernel
theorem dL_carrierOf_21 : decode cL_carrierOf 21 = .ok (.iconst 0, 1) := by decide +kernel
theorem dL_carrierOf_22 : decode cL_carrierOf 22 = .ok (.ireturn, 1) := by decide +kernel
theorem dL_shoeOf_0 : decode cL_shoeOf 0 = .ok (.aload_n 2, 1) := by decide +kernel
theorem dL_shoeOf_1 : decode cL_shoeOf 1 = .ok (.iconst 0, 1) := by decide +kernel
theorem dL_shoeOf_2 : decode cL_shoeOf 2 = .ok (.aload_n 0, 1) := by decide +kernel
theorem dL_shoeOf_3 : decode cL_shoeOf 3 = .ok (.iload_n 1, 1) := by decide +kernel
theorem dL_shoeOf_4 : decode cL_shoeOf 4 = .ok (.invokevirtual 60, 3) := by decide +kernel
theorem dL_shoeOf_7 : decode cL_shoeOf 7 = .ok (.i2l, 1) := by decide +kernel
theorem dL_shoeOf_8 : decode cL_shoeOf 8 = .ok (.lastore, 1) := by decide +kernel
theorem dL_shoeOf_9 : decode cL_shoeOf 9 = .ok (.goto 6, 3) := by decide +kernel
theorem dL_shoeOf_12 : decode cL_shoeOf 12 = .ok (.astore_n 3, 1) := by decide +kernel
theorem dL_shoeOf_13 : decode cL_shoeOf 13 = .ok (.iconst 1, 1) := by decide +kernel
theorem dL_shoeOf_14 : decode cL_shoeOf 14 = .ok (.ireturn, 1) := by decide +kernel
theorem dL_shoeOf_15 : decode cL_shoeOf 15 = .ok (.iconst 0, 1) := by decide +kernel
theorem dL_shoeOf_16 : decode cL_shoeOf 16 = .ok (.ireturn, 1) := by decide +kernel
theorem dL_tires_0 : decode cL_tires 0 = .ok (.aload_n 3, 1) := by decide +kernel
theorem dL_tires_1 : decode cL_tires 1 = .ok (.iconst 0, 1) := by decide +kernel
theorem dL_tires_2 : decode cL_tires 2 = .ok (.aload_n 0, 1) := by decide +kernel
theorem dL_tires_3 : decode cL_tires 3 = .ok (.iload_n 1, 1) := by decide +kernel
theorem dL_tires_4 : decode cL_tires 4 = .ok (.iload_n 2, 1) := by decide +kernel
theorem dL_tires_5 : decode cL_tires 5 = .ok (.invokevirtual 63, 3) := by decide +kernel
theorem dL_tires_8 : decode cL_tires 8 = .ok (.i2l, 1) := by decide +kernel
theorem dL_tires_9 : decode cL_tires 9 = .ok (.lastore, 1) := by decide +kernel
theorem dL_tires_10 : decode cL_tires 10 = .ok (.goto 7, 3) := by decide +kernel
theorem dL_tires_13 : decode cL_tires 13 = .ok (.astore 4, 2) := by decide +kernel
theorem dL_tires_15 : decode cL_tires 15 = .ok (.iconst 1, 1) := by decide +kernel
theorem dL_tires_16 : decode cL_tires 16 = .ok (.ireturn, 1) := by decide +kernel
theorem dL_tires_17 : decode cL_tires 17 = .ok (.iconst 0, 1) := by decide +kernel
theorem dL_tires_18 : decode cL_tires 18 = .ok (.ireturn, 1) := by decide +kernel
theorem dL_canCarry_0 : decode cL_canCarry 0 = .ok (.aload_n 3, 1) := by decide +kernel
theorem dL_canCarry_1 : decode cL_canCarry 1 = .ok (.iconst 0, 1) := by decide +kernel
theorem dL_canCarry_2 : decode cL_canCarry 2 = .ok (.aload_n 0, 1) := by decide +kernel
theorem dL_canCarry_3 : decode cL_canCarry 3 = .ok (.iload_n 1, 1) := by decide +kernel
theorem dL_canCarry_4 : decode cL_canCarry 4 = .ok (.iload_n 2, 1) := by decide +kernel
theorem dL_canCarry_5 : decode cL_canCarry 5 = .ok (.invokevirtual 66, 3) := by decide +kernel
theorem dL_canCarry_8 : decode cL_canCarry 8 = .ok (.i2l, 1) := by decide +kernel
theorem dL_canCarry_9 : decode cL_canCarry 9 = .ok (.lastore, 1) := by decide +kernel
theorem dL_canCarry_10 : decode cL_canCarry 10 = .ok (.goto 7, 3) := by decide +kernel
theorem dL_canCarry_13 : decode cL_canCarry 13 = .ok (.astore 4, 2) := by decide +kernel
theorem dL_canCarry_15 : decode cL_canCarry 15 = .ok (.iconst 1, 1) := by decide +kernel
theorem dL_canCarry_16 : decode cL_canCarry 16 = .ok (.ireturn, 1) := by decide +kernel
theorem dL_canCarry_17 : decode cL_canCarry 17 = .ok (.iconst 0, 1) := by decide +kernel
theorem dL_canCarry_18 : decode cL_canCarry 18 = .ok (.ireturn, 1) := by decide +kernel
theorem dL_mayCarry_0 : decode cL_mayCarry 0 = .ok (.aload_n 2, 1) := by decide +kernel
theorem dL_mayCarry_1 : decode cL_mayCarry 1 = .ok (.iconst 0, 1) := by decide +kernel
theorem dL_mayCarry_2 : decode cL_mayCarry 2 = .ok (.aload_n 0, 1) := by decide +kernel
theorem dL_mayCarry_3 : decode cL_mayCarry 3 = .ok (.iload_n 1, 1) := by decide +kernel
theorem dL_mayCarry_4 : decode cL_mayCarry 4 = .ok (.invokevirtual 69, 3) := by decide +kernel
theorem dL_mayCarry_7 : decode cL_mayCarry 7 = .ok (.i2l, 1) := by decide +kernel
theorem dL_mayCarry_8 : decode cL_mayCarry 8 = .ok (.lastore, 1) := by decide +kernel
theorem dL_mayCarry_9 : decode cL_mayCarry 9 = .ok (.goto 6, 3) := by decide +kernel
theorem dL_mayCarry_12 : decode cL_mayCarry 12 = .ok (.astore_n 3, 1) := by decide +kernel
theorem dL_mayCarry_13 : decode cL_mayCarry 13 = .ok (.iconst 1, 1) := by decide +kernel
theorem dL_mayCarry_14 : decode cL_mayCarry 14 = .ok (.ireturn, 1) := by decide +kernel
theorem dL_mayCarry_15 : decode cL_mayCarry 15 = .ok (.iconst 0, 1) := by decide +kernel
theorem dL_mayCarry_16 : decode cL_mayCarry 16 = .ok (.ireturn, 1) := by decide +kernel
theorem dL_bestCarrier_0 : decode cL_bestCarrier 0 = .ok (.aload_n 2, 1) := by decide +kernel
theorem dL_bestCarrier_1 : decode cL_bestCarrier 1 = .ok (.iconst 0, 1) := by decide +kernel
theorem dL_bestCarrier_2 : decode cL_bestCarrier 2 = .ok (.aload_n 0, 1) := by decide +kernel
theorem dL_bestCarrier_3 : decode cL_bestCarrier 3 = .ok (.iload_n 1, 1) := by decide +kernel
theorem dL_bestCarrier_4 : decode cL_bestCarrier 4 = .ok (.invokevirtual 72, 3) := by decide +kernel
theorem dL_bestCarrier_7 : decode cL_bestCarrier 7 = .ok (.i2l, 1) := by decide +kernel
theorem dL_bestCarrier_8 : decode cL_bestCarrier 8 = .ok (.lastore, 1) := by decide +kernel
theorem dL_bestCarrier_9 : decode cL_bestCarrier 9 = .ok (.goto 9, 3) := by decide +kernel
theorem dL_bestCarrier_12 : decode cL_bestCarrier 12 = .ok (.astore_n 3, 1) := by decide +kernel
theorem dL_bestCarrier_13 : decode cL_bestCarrier 13 = .ok (.iconst 1, 1) := by decide +kernel
theorem dL_bestCarrier_14 : decode cL_bestCarrier 14 = .ok (.ireturn, 1) := by decide +kernel
theorem dL_bestCarrier_15 : decode cL_bestCarrier 15 = .ok (.astore_n 3, 1) := by decide +kernel
theorem dL_bestCarrier_16 : decode cL_bestCarrier 16 = .ok (.iconst 2, 1) := by decide +kernel
theorem dL_bestCarrier_17 : decode cL_bestCarrier 17 = .ok (.ireturn, 1) := by decide +kernel
theorem dL_bestCarrier_18 : decode cL_bestCarrier 18 = .ok (.iconst 0, 1) := by decide +kernel
theorem dL_bestCarrier_19 : decode cL_bestCarrier 19 = .ok (.ireturn, 1) := by decide +kernel
theorem dL_isQuiet_0 : decode cL_isQuiet 0 = .ok (.aload_n 2, 1) := by decide +kernel
theorem dL_isQuiet_1 : decode cL_isQuiet 1 = .ok (.iconst 0, 1) := by decide +kernel
theorem dL_isQuiet_2 : decode cL_isQuiet 2 = .ok (.aload_n 0, 1) := by decide +kernel
theorem dL_isQuiet_3 : decode cL_isQuiet 3 = .ok (.iload_n 1, 1) := by decide +kernel
theorem dL_isQuiet_4 : decode cL_isQuiet 4 = .ok (.invokevirtual 77, 3) := by decide +kernel
theorem dL_isQuiet_7 : decode cL_isQuiet 7 = .ok (.ifCond .eq 7, 3) := by decide +kernel
theorem dL_isQuiet_10 : decode cL_isQuiet 10 = .ok (.lconst 1, 1) := by decide +kernel
theorem dL_isQuiet_11 : decode cL_isQuiet 11 = .ok (.goto 4, 3) := by decide +kernel
theorem dL_isQuiet_14 : decode cL_isQuiet 14 = .ok (.lconst 0, 1) := by decide +kernel
theorem dL_isQuiet_15 : decode cL_isQuiet 15 = .ok (.lastore, 1) := by decide +kernel
theorem dL_isQuiet_16 : decode cL_isQuiet 16 = .ok (.goto 6, 3) := by decide +kernel
theorem dL_isQuiet_19 : decode cL_isQuiet 19 = .ok (.astore_n 3, 1) := by decide +kernel
theorem dL_isQuiet_20 : decode cL_isQuiet 20 = .ok (.iconst 1, 1) := by decide +kernel
theorem dL_isQuiet_21 : decode cL_isQuiet 21 = .ok (.ireturn, 1) := by decide +kernel
theorem dL_isQuiet_22 : decode cL_isQuiet 22 = .ok (.iconst 0, 1) := by decide +kernel
theorem dL_isQuiet_23 : decode cL_isQuiet 23 = .ok (.ireturn, 1) := by decide +kernel
theorem dL_ranked_0 : decode cL_ranked 0 = .ok (.aload_n 2, 1) := by decide +kernel
theorem dL_ranked_1 : decode cL_ranked 1 = .ok (.iconst 0, 1) := by decide +kernel
theorem dL_ranked_2 : decode cL_ranked 2 = .ok (.aload_n 0, 1) := by decide +kernel
theorem dL_ranked_3 : decode cL_ranked 3 = .ok (.iload_n 1, 1) := by decide +kernel
theorem dL_ranked_4 : decode cL_ranked 4 = .ok (.invokevirtual 81, 3) := by decide +kernel
theorem dL_ranked_7 : decode cL_ranked 7 = .ok (.i2l, 1) := by decide +kernel
theorem dL_ranked_8 : decode cL_ranked 8 = .ok (.lastore, 1) := by decide +kernel
theorem dL_ranked_9 : decode cL_ranked 9 = .ok (.goto 6, 3) := by decide +kernel
theorem dL_ranked_12 : decode cL_ranked 12 = .ok (.astore_n 3, 1) := by decide +kernel
theorem dL_ranked_13 : decode cL_ranked 13 = .ok (.iconst 1, 1) := by decide +kernel
theorem dL_ranked_14 : decode cL_ranked 14 = .ok (.ireturn, 1) := by decide +kernel
theorem dL_ranked_15 : decode cL_ranked 15 = .ok (.iconst 0, 1) := by decide +kernel
theorem dL_ranked_16 : decode cL_ranked 16 = .ok (.ireturn, 1) := by decide +kernel
theorem dL_append_0 : decode cL_append 0 = .ok (.aload_n 2, 1) := by decide +kernel
theorem dL_append_1 : decode cL_append 1 = .ok (.iconst 0, 1) := by decide +kernel
theorem dL_append_2 : decode cL_append 2 = .ok (.aload_n 0, 1) := by decide +kernel
theorem dL_append_3 : decode cL_append 3 = .ok (.iload_n 1, 1) := by decide +kernel
theorem dL_append_4 : decode cL_append 4 = .ok (.invokevirtual 84, 3) := by decide +kernel
theorem dL_append_7 : decode cL_append 7 = .ok (.i2l, 1) := by decide +kernel
theorem dL_append_8 : decode cL_append 8 = .ok (.lastore, 1) := by decide +kernel
theorem dL_append_9 : decode cL_append 9 = .ok (.goto 6, 3) := by decide +kernel
theorem dL_append_12 : decode cL_append 12 = .ok (.astore_n 3, 1) := by decide +kernel
theorem dL_append_13 : decode cL_append 13 = .ok (.iconst 1, 1) := by decide +kernel
theorem dL_append_14 : decode cL_append 14 = .ok (.ireturn, 1) := by decide +kernel
theorem dL_append_15 : decode cL_append 15 = .ok (.iconst 0, 1) := by decide +kernel
theorem dL_append_16 : decode cL_append 16 = .ok (.ireturn, 1) := by decide +kernel
theorem dL_commands_0 : decode cL_commands 0 = .ok (.aload_n 1, 1) := by decide +kernel
theorem dL_commands_1 : decode cL_commands 1 = .ok (.iconst 0, 1) := by decide +kernel
theorem dL_commands_2 : decode cL_commands 2 = .ok (.aload_n 0, 1) := by decide +kernel
theorem dL_commands_3 : decode cL_commands 3 = .ok (.invokevirtual 90, 3) := by decide +kernel
theorem dL_commands_6 : decode cL_commands 6 = .ok (.i2l, 1) := by decide +kernel
theorem dL_commands_7 : decode cL_commands 7 = .ok (.lastore, 1) := by decide +kernel
theorem dL_commands_8 : decode cL_commands 8 = .ok (.goto 9, 3) := by decide +kernel
theorem dL_commands_11 : decode cL_commands 11 = .ok (.astore_n 2, 1) := by decide +kernel
theorem dL_commands_12 : decode cL_commands 12 = .ok (.iconst 1, 1) := by decide +kernel
theorem dL_commands_13 : decode cL_commands 13 = .ok (.ireturn, 1) := by decide +kernel
theorem dL_commands_14 : decode cL_commands 14 = .ok (.astore_n 2, 1) := by decide +kernel
theorem dL_commands_15 : decode cL_commands 15 = .ok (.iconst 2, 1) := by decide +kernel
theorem dL_commands_16 : decode cL_commands 16 = .ok (.ireturn, 1) := by decide +kernel
theorem dL_commands_17 : decode cL_commands 17 = .ok (.iconst 0, 1) := by decide +kernel
theorem dL_commands_18 : decode cL_commands 18 = .ok (.ireturn, 1) := by decide +kernel
theorem dL_reason_0 : decode cL_reason 0 = .ok (.aload_n 2, 1) := by decide +kernel
theorem dL_reason_1 : decode cL_reason 1 = .ok (.iconst 0, 1) := by decide +kernel
theorem dL_reason_2 : decode cL_reason 2 = .ok (.aload_n 0, 1) := by decide +kernel
theorem dL_reason_3 : decode cL_reason 3 = .ok (.iload_n 1, 1) := by decide +kernel
theorem dL_reason_4 : decode cL_reason 4 = .ok (.invokevirtual 93, 3) := by decide +kernel
theorem dL_reason_7 : decode cL_reason 7 = .ok (.i2l, 1) := by decide +kernel
theorem dL_reason_8 : decode cL_reason 8 = .ok (.lastore, 1) := by decide +kernel
theorem dL_reason_9 : decode cL_reason 9 = .ok (.goto 9, 3) := by decide +kernel
theorem dL_reason_12 : decode cL_reason 12 = .ok (.astore_n 3, 1) := by decide +kernel
theorem dL_reason_13 : decode cL_reason 13 = .ok (.iconst 1, 1) := by decide +kernel
theorem dL_reason_14 : decode cL_reason 14 = .ok (.ireturn, 1) := by decide +kernel
theorem dL_reason_15 : decode cL_reason 15 = .ok (.astore_n 3, 1) := by decide +kernel
theorem dL_reason_16 : decode cL_reason 16 = .ok (.iconst 2, 1) := by decide +kernel
theorem dL_reason_17 : decode cL_reason 17 = .ok (.ireturn, 1) := by decide +kernel
theorem dL_reason_18 : decode cL_reason 18 = .ok (.iconst 0, 1) := by decide +kernel
theorem dL_reason_19 : decode cL_reason 19 = .ok (.ireturn, 1) := by decide +kernel
theorem dL_line_0 : decode cL_line 0 = .ok (.aload_n 2, 1) := by decide +kernel
theorem dL_line_1 : decode cL_line 1 = .ok (.iconst 0, 1) := by decide +kernel
theorem dL_line_2 : decode cL_line 2 = .ok (.aload_n 0, 1) := by decide +kernel
theorem dL_line_3 : decode cL_line 3 = .ok (.iload_n 1, 1) := by decide +kernel
theorem dL_line_4 : decode cL_line 4 = .ok (.invokevirtual 96, 3) := by decide +kernel
theorem dL_line_7 : decode cL_line 7 = .ok (.i2l, 1) := by decide +kernel
theorem dL_line_8 : decode cL_line 8 = .ok (.lastore, 1) := by decide +kernel
theorem dL_line_9 : decode cL_line 9 = .ok (.goto 6, 3) := by decide +kernel
theorem dL_line_12 : decode cL_line 12 = .ok (.astore_n 3, 1) := by decide +kernel
theorem dL_line_13 : decode cL_line 13 = .ok (.iconst 1, 1) := by decide +kernel
theorem dL_line_14 : decode cL_line 14 = .ok (.ireturn, 1) := by decide +kernel
theorem dL_line_15 : decode cL_line 15 = .ok (.iconst 0, 1) := by decide +kernel
theorem dL_line_16 : decode cL_line 16 = .ok (.ireturn, 1) := by decide +kernel
theorem dL_character_0 : decode cL_character 0 = .ok (.aload_n 2, 1) := by decide +kernel
theorem dL_character_1 : decode cL_character 1 = .ok (.iconst 0, 1) := by decide +kernel
theorem dL_character_2 : decode cL_character 2 = .ok (.aload_n 0, 1) := by decide +kernel
theorem dL_character_3 : decode cL_character 3 = .ok (.iload_n 1, 1) := by decide +kernel
theorem dL_character_4 : decode cL_character 4 = .ok (.invokevirtual 99, 3) := by decide +kernel
theorem dL_character_7 : decode cL_character 7 = .ok (.i2l, 1) := by decide +kernel
theorem dL_character_8 : decode cL_character 8 = .ok (.lastore, 1) := by decide +kernel
theorem dL_character_9 : decode cL_character 9 = .ok (.goto 6, 3) := by decide +kernel
theorem dL_character_12 : decode cL_character 12 = .ok (.astore_n 3, 1) := by decide +kernel
theorem dL_character_13 : decode cL_character 13 = .ok (.iconst 1, 1) := by decide +kernel
theorem dL_character_14 : decode cL_character 14 = .ok (.ireturn, 1) := by decide +kernel
theorem dL_character_15 : decode cL_character 15 = .ok (.iconst 0, 1) := by decide +kernel
theorem dL_character_16 : decode cL_character 16 = .ok (.ireturn, 1) := by decide +kernel
theorem dL_meanArrears_0 : decode cL_meanArrears 0 = .ok (.aload_n 1, 1) := by decide +kernel
theorem dL_meanArrears_1 : decode cL_meanArrears 1 = .ok (.iconst 0, 1) := by decide +kernel
theorem dL_meanArrears_2 : decode cL_meanArrears 2 = .ok (.aload_n 0, 1) := by decide +kernel
theorem dL_meanArrears_3 : decode cL_meanArrears 3 = .ok (.invokevirtual 103, 3) := by decide +kernel
theorem dL_meanArrears_6 : decode cL_meanArrears 6 = .ok (.f2d, 1) := by decide +kernel
theorem dL_meanArrears_7 : decode cL_meanArrears 7 = .ok (.dastore, 1) := by decide +kernel
theorem dL_meanArrears_8 : decode cL_meanArrears 8 = .ok (.goto 6, 3) := by decide +kernel
theorem dL_meanArrears_11 : decode cL_meanArrears 11 = .ok (.astore_n 2, 1) := by decide +kernel
theorem dL_meanArrears_12 : decode cL_meanArrears 12 = .ok (.iconst 1, 1) := by decide +kernel
theorem dL_meanArrears_13 : decode cL_meanArrears 13 = .ok (.ireturn, 1) := by decide +kernel
theorem dL_meanArrears_14 : decode cL_meanArrears 14 = .ok (.iconst 0, 1) := by decide +kernel
theorem dL_meanArrears_15 : decode cL_meanArrears 15 = .ok (.ireturn, 1) := by decide +kernel
theorem dL_paidShare_0 : decode cL_paidShare 0 = .ok (.aload_n 1, 1) := by decide +kernel
theorem dL_paidShare_1 : decode cL_paidShare 1 = .ok (.iconst 0, 1) := by decide +kernel
theorem dL_paidShare_2 : decode cL_paidShare 2 = .ok (.aload_n 0, 1) := by decide +kernel
theorem dL_paidShare_3 : decode cL_paidShare 3 = .ok (.invokevirtual 109, 3) := by decide +kernel
theorem dL_paidShare_6 : decode cL_paidShare 6 = .ok (.dastore, 1) := by decide +kernel
theorem dL_paidShare_7 : decode cL_paidShare 7 = .ok (.goto 6, 3) := by decide +kernel
theorem dL_paidShare_10 : decode cL_paidShare 10 = .ok (.astore_n 2, 1) := by decide +kernel
theorem dL_paidShare_11 : decode cL_paidShare 11 = .ok (.iconst 1, 1) := by decide +kernel
theorem dL_paidShare_12 : decode cL_paidShare 12 = .ok (.ireturn, 1) := by decide +kernel
theorem dL_paidShare_13 : decode cL_paidShare 13 = .ok (.iconst 0, 1) := by decide +kernel
theorem dL_paidShare_14 : decode cL_paidShare 14 = .ok (.ireturn, 1) := by decide +kernel
theorem dL_account_0 : decode cL_account 0 = .ok (.aload_n 2, 1) := by decide +kernel
theorem dL_account_1 : decode cL_account 1 = .ok (.iconst 0, 1) := by decide +kernel
theorem dL_account_2 : decode cL_account 2 = .ok (.aload_n 0, 1) := by decide +kernel
theorem dL_account_3 : decode cL_account 3 = .ok (.iload_n 1, 1) := by decide +kernel
theorem dL_account_4 : decode cL_account 4 = .ok (.invokevirtual 113, 3) := by decide +kernel
theorem dL_account_7 : decode cL_account 7 = .ok (.i2l, 1) := by decide +kernel
theorem dL_account_8 : decode cL_account 8 = .ok (.lastore, 1) := by decide +kernel
theorem dL_account_9 : decode cL_account 9 = .ok (.goto 6, 3) := by decide +kernel
theorem dL_account_12 : decode cL_account 12 = .ok (.astore_n 3, 1) := by decide +kernel
theorem dL_account_13 : decode cL_account 13 = .ok (.iconst 1, 1) := by decide +kernel
theorem dL_account_14 : decode cL_account 14 = .ok (.ireturn, 1) := by decide +kernel
theorem dL_account_15 : decode cL_account 15 = .ok (.iconst 0, 1) := by decide +kernel
theorem dL_account_16 : decode cL_account 16 = .ok (.ireturn, 1) := by decide +kernel
theorem dL_undo_0 : decode cL_undo 0 = .ok (.aload_n 1, 1) := by decide +kernel
theorem dL_undo_1 : decode cL_undo 1 = .ok (.iconst 0, 1) := by decide +kernel
theorem dL_undo_2 : decode cL_undo 2 = .ok (.aload_n 0, 1) := by decide +kernel
theorem dL_undo_3 : decode cL_undo 3 = .ok (.invokevirtual 116, 3) := by decide +kernel
theorem dL_undo_6 : decode cL_undo 6 = .ok (.i2l, 1) := by decide +kernel
theorem dL_undo_7 : decode cL_undo 7 = .ok (.lastore, 1) := by decide +kernel
theorem dL_undo_8 : decode cL_undo 8 = .ok (.goto 6, 3) := by decide +kernel
theorem dL_undo_11 : decode cL_undo 11 = .ok (.astore_n 2, 1) := by decide +kernel
theorem dL_undo_12 : decode cL_undo 12 = .ok (.iconst 1, 1) := by decide +kernel
theorem dL_undo_13 : decode cL_undo 13 = .ok (.ireturn, 1) := by decide +kernel
theorem dL_undo_14 : decode cL_undo 14 = .ok (.iconst 0, 1) := by decide +kernel
theorem dL_undo_15 : decode cL_undo 15 = .ok (.ireturn, 1) := by decide +kernel
theorem dL_restore_0 : decode cL_restore 0 = .ok (.aload_n 1, 1) := by decide +kernel
theorem dL_restore_1 : decode cL_restore 1 = .ok (.iconst 0, 1) := by decide +kernel
theorem dL_restore_2 : decode cL_restore 2 = .ok (.aload_n 0, 1) := by decide +kernel
theorem dL_restore_3 : decode cL_restore 3 = .ok (.invokevirtual 119, 3) := by decide +kernel
theorem dL_restore_6 : decode cL_restore 6 = .ok (.i2l, 1) := by decide +kernel
theorem dL_restore_7 : decode cL_restore 7 = .ok (.lastore, 1) := by decide +kernel
theorem dL_restore_8 : decode cL_restore 8 = .ok (.goto 6, 3) := by decide +kernel
theorem dL_restore_11 : decode cL_restore 11 = .ok (.astore_n 2, 1) := by decide +kernel
theorem dL_restore_12 : decode cL_restore 12 = .ok (.iconst 1, 1) := by decide +kernel
theorem dL_restore_13 : decode cL_restore 13 = .ok (.ireturn, 1) := by decide +kernel
theorem dL_restore_14 : decode cL_restore 14 = .ok (.iconst 0, 1) := by decide +kernel
theorem dL_restore_15 : decode cL_restore 15 = .ok (.ireturn, 1) := by decide +kernel
set_option maxHeartbeats 4000000 in
set_option maxRecDepth 100000 in
theorem t_L_house {D : va_G} {s0 : State} {l : Launch} {B : Nat} {A : AT} {σ : Sg} (hA : AOK B A) {a : Int32} {b : Int32} {dX mX sX d : Nat} {Post : Option Value → GH → Prop} {PX : String → GH → Prop} (hM : Tri D s0 l yX7_house cX7_house 3 ((some .int)) dX mX sX [.ref (A 0 0 0), .int a, .int b] (HP A σ) Post PX) (hP : ∀ r G', Post r G' → ∃ (σ1 : Sg) (v : Int32), r = some (.int v) ∧ G' = HP A σ1) (hX : ∀ E G', PX E G' → (E = "java/lang/UnsupportedOperationException") ∧ ∃ σ1 : Sg, G' = HP A σ1) (hd : dX < d) : TriH D s0 l yL_house cL_house 5 (some .int) [(0, 10, 13, 13)] d mX sX [.ref (A 0 0 0), .int a, .int b, .ref (A 30 0 0)] (HP A σ) (fun r G' => (∃ (σ1 : Sg) (v : Int32), Post (some (.int v)) (HP A σ1) ∧ r = some (.int 0) ∧ G' = HP A (sl σ1 v.toInt64)) ∨ (∃ σ1 : Sg, PX "java/lang/UnsupportedOperationException" (HP A σ1) ∧ r = some (.int 1) ∧ G' = HP A σ1)) noX := by
  refine TriH.ofV (own := RL) (mn := "house") (by decide +kernel) rfl rfl (Nat.le_of_ble_eq_true rfl) ?_
  refine V_aload_n (i := 3) dL_house_0 rfl rfl ?_
  refine V_iconst (v := 0) dL_house_1 (by decide) ?_
  refine V_aload_n (i := 0) dL_house_2 rfl rfl ?_
  refine V_iload_n (i := 1) dL_house_3 rfl rfl ?_
  refine V_iload_n (i := 2) dL_house_4 rfl rfl ?_
  refine V_call (d := d) cv_L_7 dL_house_5 hM (hp0 hA) rfl rfl rfl rfl (Nat.le_of_ble_eq_true rfl) ⟨Nat.le_refl _, Nat.le_refl _⟩ hd ⟨Nat.le_of_eq (Nat.zero_add _), Nat.le_of_eq (Nat.zero_add _)⟩ ?_ ?_
  · intro r G' h
    obtain ⟨σ1, v, rfl, rfl⟩ := hP r G' h
    refine V_i2l dL_house_8 rfl ?_
    refine VA_30 dL_house_9 hA ?_
    refine V_goto (tgt := 17) dL_house_10 (by decide) ?_
    refine V_iconst (v := 0) dL_house_17 (by decide) ?_
    refine V_iret dL_house_18 rfl (Nat.le_of_eq (Nat.zero_add _)) (Nat.le_of_eq (Nat.zero_add _)) ?_
    exact Or.inl ⟨σ1, v, h, rfl, rfl⟩
  · intro E G' h
    obtain ⟨hE, σ1, rfl⟩ := hX E G' h
    rcases hE with rfl
    · refine VX_catch (pre := []) (x := (0, 10, 13, 13)) (suf := []) rfl (fun z hz => by cases hz) (by decide) (by decide) kl_13 kc_13 (fun q => ?_)
      refine V_astore (i := 4) dL_house_13 (by decide) ?_
      refine V_iconst (v := 1) dL_house_15 (by decide) ?_
      refine V_iret dL_house_16 rfl (Nat.le_of_eq (Nat.zero_add _)) (Nat.le_of_eq (Nat.zero_add _)) ?_
      exact Or.inr ⟨σ1, h, rfl, rfl⟩

set_option maxHeartbeats 4000000 in
set_option maxRecDepth 100000 in
theorem t_L_order {D : va_G} {s0 : State} {l : Launch} {B : Nat} {A : AT} {σ : Sg} (hA : AOK B A) {a : Int32} {b : Int32} {dX mX sX d : Nat} {Post : Option Value → GH → Prop} {PX : String → GH → Prop} (hM : Tri D s0 l yX7_order cX7_order 3 ((some .int)) dX mX sX [.ref (A 0 0 0), .int a, .int b] (HP A σ) Post PX) (hP : ∀ r G', Post r G' → ∃ (σ1 : Sg) (v : Int32), r = some (.int v) ∧ G' = HP A σ1) (hX : ∀ E G', PX E G' → (E = "java/lang/UnsupportedOperationException") ∧ ∃ σ1 : Sg, G' = HP A σ1) (hd : dX < d) : TriH D s0 l yL_order cL_order 5 (some .int) [(0, 10, 13, 13)] d mX sX [.ref (A 0 0 0), .int a, .int b, .ref (A 30 0 0)] (HP A σ) (fun r G' => (∃ (σ1 : Sg) (v : Int32), Post (some (.int v)) (HP A σ1) ∧ r = some (.int 0) ∧ G' = HP A (sl σ1 v.toInt64)) ∨ (∃ σ1 : Sg, PX "java/lang/UnsupportedOperationException" (HP A σ1) ∧ r = some (.int 1) ∧ G' = HP A σ1)) noX := by
  refine TriH.ofV (own := RL) (mn := "order") (by decide +kernel) rfl rfl (Nat.le_of_ble_eq_true rfl) ?_
  refine V_aload_n (i := 3) dL_order_0 rfl rfl ?_
  refine V_iconst (v := 0) dL_order_1 (by decide) ?_
  refine V_aload_n (i := 0) dL_order_2 rfl rfl ?_
  refine V_iload_n (i := 1) dL_order_3 rfl rfl ?_
  refine V_iload_n (i := 2) dL_order_4 rfl rfl ?_
  refine V_call (d := d) cv_L_15 dL_order_5 hM (hp0 hA) rfl rfl rfl rfl (Nat.le_of_ble_eq_true rfl) ⟨Nat.le_refl _, Nat.le_refl _⟩ hd ⟨Nat.le_of_eq (Nat.zero_add _), Nat.le_of_eq (Nat.zero_add _)⟩ ?_ ?_
  · intro r G' h
    obtain ⟨σ1, v, rfl, rfl⟩ := hP r G' h
    refine V_i2l dL_order_8 rfl ?_
    refine VA_30 dL_order_9 hA ?_
    refine V_goto (tgt := 17) dL_order_10 (by decide) ?_
    refine V_iconst (v := 0) dL_order_17 (by decide) ?_
    refine V_iret dL_order_18 rfl (Nat.le_of_eq (Nat.zero_add _)) (Nat.le_of_eq (Nat.zero_add _)) ?_
    exact Or.inl ⟨σ1, v, h, rfl, rfl⟩
  · intro E G' h
    obtain ⟨hE, σ1, rfl⟩ := hX E G' h
    rcases hE with rfl
    · refine VX_catch (pre := []) (x := (0, 10, 13, 13)) (suf := []) rfl (fun z hz => by cases hz) (by decide) (by decide) kl_13 kc_13 (fun q => ?_)
      refine V_astore (i := 4) dL_order_13 (by decide) ?_
      refine V_iconst (v := 1) dL_order_15 (by decide) ?_
      refine V_iret dL_order_16 rfl (Nat.le_of_eq (Nat.zero_add _)) (Nat.le_of_eq (Nat.zero_add _)) ?_
      exact Or.inr ⟨σ1, h, rfl, rfl⟩

set_option maxHeartbeats 4000000 in
set_option maxRecDepth 100000 in
theorem t_L_carrier {D : va_G} {s0 : State} {l : Launch} {B : Nat} {A : AT} {σ : Sg} (hA : AOK B A) {a : Int32} {dX mX sX d : Nat} {Post : Option Value → GH → Prop} {PX : String → GH → Prop} (hM : Tri D s0 l yX7_carrier cX7_carrier 2 ((some .int)) dX mX sX [.ref (A 0 0 0), .int a] (HP A σ) Post PX) (hP : ∀ r G', Post r G' → ∃ (σ1 : Sg) (v : Int32), r = some (.int v) ∧ G' = HP A σ1) (hX : ∀ E G', PX E G' → (E = "java/lang/UnsupportedOperationException") ∧ ∃ σ1 : Sg, G' = HP A σ1) (hd : dX < d) : TriH D s0 l yL_carrier cL_carrier 4 (some .int) [(0, 9, 12, 13)] d mX sX [.ref (A 0 0 0), .int a, .ref (A 30 0 0)] (HP A σ) (fun r G' => (∃ (σ1 : Sg) (v : Int32), Post (some (.int v)) (HP A σ1) ∧ r = some (.int 0) ∧ G' = HP A (sl σ1 v.toInt64)) ∨ (∃ σ1 : Sg, PX "java/lang/UnsupportedOperationException" (HP A σ1) ∧ r = some (.int 1) ∧ G' = HP A σ1)) noX := by
  refine TriH.ofV (own := RL) (mn := "carrier") (by decide +kernel) rfl rfl (Nat.le_of_ble_eq_true rfl) ?_
  refine V_aload_n (i := 2) dL_carrier_0 rfl rfl ?_
  refine V_iconst (v := 0) dL_carrier_1 (by decide) ?_
  refine V_aload_n (i := 0) dL_carrier_2 rfl rfl ?_
  refine V_iload_n (i := 1) dL_carrier_3 rfl rfl ?_
  refine V_call (d := d) cv_L_18 dL_carrier_4 hM (hp0 hA) rfl rfl rfl rfl (Nat.le_of_ble_eq_true rfl) ⟨Nat.le_refl _, Nat.le_refl _⟩ hd ⟨Nat.le_of_eq (Nat.zero_add _), Nat.le_of_eq (Nat.zero_add _)⟩ ?_ ?_
  · intro r G' h
    obtain ⟨σ1, v, rfl, rfl⟩ := hP r G' h
    refine V_i2l dL_carrier_7 rfl ?_
    refine VA_30 dL_carrier_8 hA ?_
    refine V_goto (tgt := 15) dL_carrier_9 (by decide) ?_
    refine V_iconst (v := 0) dL_carrier_15 (by decide) ?_
    refine V_iret dL_carrier_16 rfl (Nat.le_of_eq (Nat.zero_add _)) (Nat.le_of_eq (Nat.zero_add _)) ?_
    exact Or.inl ⟨σ1, v, h, rfl, rfl⟩
  · intro E G' h
    obtain ⟨hE, σ1, rfl⟩ := hX E G' h
    rcases hE with rfl
    · refine VX_catch (pre := []) (x := (0, 9, 12, 13)) (suf := []) rfl (fun z hz => by cases hz) (by decide) (by decide) kl_13 kc_13 (fun q => ?_)
      refine V_astore_n (i := 3) dL_carrier_12 rfl (by decide) ?_
      refine V_iconst (v := 1) dL_carrier_13 (by decide) ?_
      refine V_iret dL_carrier_14 rfl (Nat.le_of_eq (Nat.zero_add _)) (Nat.le_of_eq (Nat.zero_add _)) ?_
      exact Or.inr ⟨σ1, h, rfl, rfl⟩

set_option maxHeartbeats 4000000 in
set_option maxRecDepth 100000 in
theorem t_L_load {D : va_G} {s0 : State} {l : Launch} {B : Nat} {A : AT} {σ : Sg} (hA : AOK B A) {a : Int32} {dX mX sX d : Nat} {Post : Option Value → GH → Prop} {PX : String → GH → Prop} (hM : Tri D s0 l yX7_load cX7_load 2 ((some .int)) dX mX sX [.ref (A 0 0 0), .int a] (HP A σ) Post PX) (hP : ∀ r G', Post r G' → ∃ (σ1 : Sg) (v : Int32), r = some (.int v) ∧ G' = HP A σ1) (hX : ∀ E G', PX E G' → (E = "java/lang/UnsupportedOperationException") ∧ ∃ σ1 : Sg, G' = HP A σ1) (hd : dX < d) : TriH D s0 l yL_load cL_load 4 (some .int) [(0, 9, 12, 13)] d mX sX [.ref (A 0 0 0), .int a, .ref (A 30 0 0)] (HP A σ) (fun r G' => (∃ (σ1 : Sg) (v : Int32), Post (some (.int v)) (HP A σ1) ∧ r = some (.int 0) ∧ G' = HP A (sl σ1 v.toInt64)) ∨ (∃ σ1 : Sg, PX "java/lang/UnsupportedOperationException" (HP A σ1) ∧ r = some (.int 1) ∧ G' = HP A σ1)) noX := by
  refine TriH.ofV (own := RL) (mn := "load") (by decide +kernel) rfl rfl (Nat.le_of_ble_eq_true rfl) ?_
  refine V_aload_n (i := 2) dL_load_0 rfl rfl ?_
  refine V_iconst (v := 0) dL_load_1 (by decide) ?_
  refine V_aload_n (i := 0) dL_load_2 rfl rfl ?_
  refine V_iload_n (i := 1) dL_load_3 rfl rfl ?_
  refine V_call (d := d) cv_L_22 dL_load_4 hM (hp0 hA) rfl rfl rfl rfl (Nat.le_of_ble_eq_true rfl) ⟨Nat.le_refl _, Nat.le_refl _⟩ hd ⟨Nat.le_of_eq (Nat.zero_add _), Nat.le_of_eq (Nat.zero_add _)⟩ ?_ ?_
  · intro r G' h
    obtain ⟨σ1, v, rfl, rfl⟩ := hP r G' h
    refine V_i2l dL_load_7 rfl ?_
    refine VA_30 dL_load_8 hA ?_
    refine V_goto (tgt := 15) dL_load_9 (by decide) ?_
    refine V_iconst (v := 0) dL_load_15 (by decide) ?_
    refine V_iret dL_load_16 rfl (Nat.le_of_eq (Nat.zero_add _)) (Nat.le_of_eq (Nat.zero_add _)) ?_
    exact Or.inl ⟨σ1, v, h, rfl, rfl⟩
  · intro E G' h
    obtain ⟨hE, σ1, rfl⟩ := hX E G' h
    rcases hE with rfl
    · refine VX_catch (pre := []) (x := (0, 9, 12, 13)) (suf := []) rfl (fun z hz => by cases hz) (by decide) (by decide) kl_13 kc_13 (fun q => ?_)
      refine V_astore_n (i := 3) dL_load_12 rfl (by decide) ?_
      refine V_iconst (v := 1) dL_load_13 (by decide) ?_
      refine V_iret dL_load_14 rfl (Nat.le_of_eq (Nat.zero_add _)) (Nat.le_of_eq (Nat.zero_add _)) ?_
      exact Or.inr ⟨σ1, h, rfl, rfl⟩

set_option maxHeartbeats 4000000 in
set_option maxRecDepth 100000 in
theorem t_L_drive {D : va_G} {s0 : State} {l : Launch} {B : Nat} {A : AT} {σ : Sg} (hA : AOK B A) {a : Int32} {dX mX sX d : Nat} {Post : Option Value → GH → Prop} {PX : String → GH → Prop} (hM : Tri D s0 l yX7_drive cX7_drive 2 ((some .int)) dX mX sX [.ref (A 0 0 0), .int a] (HP A σ) Post PX) (hP : ∀ r G', Post r G' → ∃ (σ1 : Sg) (v : Int32), r = some (.int v) ∧ G' = HP A σ1) (hX : ∀ E G', PX E G' → (E = "java/lang/UnsupportedOperationException") ∧ ∃ σ1 : Sg, G' = HP A σ1) (hd : dX < d) : TriH D s0 l yL_drive cL_drive 4 (some .int) [(0, 9, 12, 13)] d mX sX [.ref (A 0 0 0), .int a, .ref (A 30 0 0)] (HP A σ) (fun r G' => (∃ (σ1 : Sg) (v : Int32), Post (some (.int v)) (HP A σ1) ∧ r = some (.int 0) ∧ G' = HP A (sl σ1 v.toInt64)) ∨ (∃ σ1 : Sg, PX "java/lang/UnsupportedOperationException" (HP A σ1) ∧ r = some (.int 1) ∧ G' = HP A σ1)) noX := by
  refine TriH.ofV (own := RL) (mn := "drive") (by decide +kernel) rfl rfl (Nat.le_of_ble_eq_true rfl) ?_
  refine V_aload_n (i := 2) dL_drive_0 rfl rfl ?_
  refine V_iconst (v := 0) dL_drive_1 (by decide) ?_
  refine V_aload_n (i := 0) dL_drive_2 rfl rfl ?_
  refine V_iload_n (i := 1) dL_drive_3 rfl rfl ?_
  refine V_call (d := d) cv_L_25 dL_drive_4 hM (hp0 hA) rfl rfl rfl rfl (Nat.le_of_ble_eq_true rfl) ⟨Nat.le_refl _, Nat.le_refl _⟩ hd ⟨Nat.le_of_eq (Nat.zero_add _), Nat.le_of_eq (Nat.zero_add _)⟩ ?_ ?_
  · intro r G' h
    obtain ⟨σ1, v, rfl, rfl⟩ := hP r G' h
    refine V_i2l dL_drive_7 rfl ?_
    refine VA_30 dL_drive_8 hA ?_
    refine V_goto (tgt := 15) dL_drive_9 (by decide) ?_
    refine V_iconst (v := 0) dL_drive_15 (by decide) ?_
    refine V_iret dL_drive_16 rfl (Nat.le_of_eq (Nat.zero_add _)) (Nat.le_of_eq (Nat.zero_add _)) ?_
    exact Or.inl ⟨σ1, v, h, rfl, rfl⟩
  · intro E G' h
    obtain ⟨hE, σ1, rfl⟩ := hX E G' h
    rcases hE with rfl
    · refine VX_catch (pre := []) (x := (0, 9, 12, 13)) (suf := []) rfl (fun z hz => by cases hz) (by decide) (by decide) kl_13 kc_13 (fun q => ?_)
      refine V_astore_n (i := 3) dL_drive_12 rfl (by decide) ?_
      refine V_iconst (v := 1) dL_drive_13 (by decide) ?_
      refine V_iret dL_drive_14 rfl (Nat.le_of_eq (Nat.zero_add _)) (Nat.le_of_eq (Nat.zero_add _)) ?_
      exact Or.inr ⟨σ1, h, rfl, rfl⟩

set_option maxHeartbeats 4000000 in
set_option maxRecDepth 100000 in
theorem t_L_carry {D : va_G} {s0 : State} {l : Launch} {B : Nat} {A : AT} {σ : Sg} (hA : AOK B A) {a : Int32} {b : Int32} {dX mX sX d : Nat} {Post : Option Value → GH → Prop} {PX : String → GH → Prop} (hM : Tri D s0 l yX7_carry cX7_carry 3 ((some .int)) dX mX sX [.ref (A 0 0 0), .int a, .int b] (HP A σ) Post PX) (hP : ∀ r G', Post r G' → ∃ (σ1 : Sg) (v : Int32), r = some (.int v) ∧ G' = HP A σ1) (hX : ∀ E G', PX E G' → (E = "java/lang/UnsupportedOperationException") ∧ ∃ σ1 : Sg, G' = HP A σ1) (hd : dX < d) : TriH D s0 l yL_carry cL_carry 5 (some .int) [(0, 10, 13, 13)] d mX sX [.ref (A 0 0 0), .int a, .int b, .ref (A 30 0 0)] (HP A σ) (fun r G' => (∃ (σ1 : Sg) (v : Int32), Post (some (.int v)) (HP A σ1) ∧ r = some (.int 0) ∧ G' = HP A (sl σ1 v.toInt64)) ∨ (∃ σ1 : Sg, PX "java/lang/UnsupportedOperationException" (HP A σ1) ∧ r = some (.int 1) ∧ G' = HP A σ1)) noX := by
  refine TriH.ofV (own := RL) (mn := "carry") (by decide +kernel) rfl rfl (Nat.le_of_ble_eq_true rfl) ?_
  refine V_aload_n (i := 3) dL_carry_0 rfl rfl ?_
  refine V_iconst (v := 0) dL_carry_1 (by decide) ?_
  refine V_aload_n (i := 0) dL_carry_2 rfl rfl ?_
  refine V_iload_n (i := 1) dL_carry_3 rfl rfl ?_
  refine V_iload_n (i := 2) dL_carry_4 rfl rfl ?_
  refine V_call (d := d) cv_L_28 dL_carry_5 hM (hp0 hA) rfl rfl rfl rfl (Nat.le_of_ble_eq_true rfl) ⟨Nat.le_refl _, Nat.le_refl _⟩ hd ⟨Nat.le_of_eq (Nat.zero_add _), Nat.le_of_eq (Nat.zero_add _)⟩ ?_ ?_
  · intro r G' h
    obtain ⟨σ1, v, rfl, rfl⟩ := hP r G' h
    refine V_i2l dL_carry_8 rfl ?_
    refine VA_30 dL_carry_9 hA ?_
    refine V_goto (tgt := 17) dL_carry_10 (by decide) ?_
    refine V_iconst (v := 0) dL_carry_17 (by decide) ?_
    refine V_iret dL_carry_18 rfl (Nat.le_of_eq (Nat.zero_add _)) (Nat.le_of_eq (Nat.zero_add _)) ?_
    exact Or.inl ⟨σ1, v, h, rfl, rfl⟩
  · intro E G' h
    obtain ⟨hE, σ1, rfl⟩ := hX E G' h
    rcases hE with rfl
    · refine VX_catch (pre := []) (x := (0, 10, 13, 13)) (suf := []) rfl (fun z hz => by cases hz) (by decide) (by decide) kl_13 kc_13 (fun q => ?_)
      refine V_astore (i := 4) dL_carry_13 (by decide) ?_
      refine V_iconst (v := 1) dL_carry_15 (by decide) ?_
      refine V_iret dL_carry_16 rfl (Nat.le_of_eq (Nat.zero_add _)) (Nat.le_of_eq (Nat.zero_add _)) ?_
      exact Or.inr ⟨σ1, h, rfl, rfl⟩

set_option maxHeartbeats 4000000 in
set_option maxRecDepth 100000 in
theorem t_L_bone {D : va_G} {s0 : State} {l : Launch} {B : Nat} {A : AT} {σ : Sg} (hA : AOK B A) {dX mX sX d : Nat} {Post : Option Value → GH → Prop} {PX : String → GH → Prop} (hM : Tri D s0 l yX7_bone cX7_bone 1 ((some .int)) dX mX sX [.ref (A 0 0 0)] (HP A σ) Post PX) (hP : ∀ r G', Post r G' → ∃ (σ1 : Sg) (v : Int32), r = some (.int v) ∧ G' = HP A σ1) (hX : ∀ E G', PX E G' → (E = "java/lang/UnsupportedOperationException") ∧ ∃ σ1 : Sg, G' = HP A σ1) (hd : dX < d) : TriH D s0 l yL_bone cL_bone 3 (some .int) [(0, 8, 11, 13)] d mX sX [.ref (A 0 0 0), .ref (A 30 0 0)] (HP A σ) (fun r G' => (∃ (σ1 : Sg) (v : Int32), Post (some (.int v)) (HP A σ1) ∧ r = some (.int 0) ∧ G' = HP A (sl σ1 v.toInt64)) ∨ (∃ σ1 : Sg, PX "java/lang/UnsupportedOperationException" (HP A σ1) ∧ r = some (.int 1) ∧ G' = HP A σ1)) noX := by
  refine TriH.ofV (own := RL) (mn := "bone") (by decide +kernel) rfl rfl (Nat.le_of_ble_eq_true rfl) ?_
  refine V_aload_n (i := 1) dL_bone_0 rfl rfl ?_
  refine V_iconst (v := 0) dL_bone_1 (by decide) ?_
  refine V_aload_n (i := 0) dL_bone_2 rfl rfl ?_
  refine V_call (d := d) cv_L_31 dL_bone_3 hM (hp0 hA) rfl rfl rfl rfl (Nat.le_of_ble_eq_true rfl) ⟨Nat.le_refl _, Nat.le_refl _⟩ hd ⟨Nat.le_of_eq (Nat.zero_add _), Nat.le_of_eq (Nat.zero_add _)⟩ ?_ ?_
  · intro r G' h
    obtain ⟨σ1, v, rfl, rfl⟩ := hP r G' h
    refine V_i2l dL_bone_6 rfl ?_
    refine VA_30 dL_bone_7 hA ?_
    refine V_goto (tgt := 14) dL_bone_8 (by decide) ?_
    refine V_iconst (v := 0) dL_bone_14 (by decide) ?_
    refine V_iret dL_bone_15 rfl (Nat.le_of_eq (Nat.zero_add _)) (Nat.le_of_eq (Nat.zero_add _)) ?_
    exact Or.inl ⟨σ1, v, h, rfl, rfl⟩
  · intro E G' h
    obtain ⟨hE, σ1, rfl⟩ := hX E G' h
    rcases hE with rfl
    · refine VX_catch (pre := []) (x := (0, 8, 11, 13)) (suf := []) rfl (fun z hz => by cases hz) (by decide) (by decide) kl_13 kc_13 (fun q => ?_)
      refine V_astore_n (i := 2) dL_bone_11 rfl (by decide) ?_
      refine V_iconst (v := 1) dL_bone_12 (by decide) ?_
      refine V_iret dL_bone_13 rfl (Nat.le_of_eq (Nat.zero_add _)) (Nat.le_of_eq (Nat.zero_add _)) ?_
      exact Or.inr ⟨σ1, h, rfl, rfl⟩

set_option maxHeartbeats 4000000 in
set_option maxRecDepth 100000 in
theorem t_L_bones {D : va_G} {s0 : State} {l : Launch} {B : Nat} {A : AT} {σ : Sg} (hA : AOK B A) {a : Int32} {dX mX sX d : Nat} {Post : Option Value → GH → Prop} {PX : String → GH → Prop} (hM : Tri D s0 l yX7_bones cX7_bones 2 ((some .int)) dX mX sX [.ref (A 0 0 0), .int a] (HP A σ) Post PX) (hP : ∀ r G', Post r G' → ∃ (σ1 : Sg) (v : Int32), r = some (.int v) ∧ G' = HP A σ1) (hX : ∀ E G', PX E G' → (E = "java/lang/UnsupportedOperationException") ∧ ∃ σ1 : Sg, G' = HP A σ1) (hd : dX < d) : TriH D s0 l yL_bones cL_bones 4 (some .int) [(0, 9, 12, 13)] d mX sX [.ref (A 0 0 0), .int a, .ref (A 30 0 0)] (HP A σ) (fun r G' => (∃ (σ1 : Sg) (v : Int32), Post (some (.int v)) (HP A σ1) ∧ r = some (.int 0) ∧ G' = HP A (sl σ1 v.toInt64)) ∨ (∃ σ1 : Sg, PX "java/lang/UnsupportedOperationException" (HP A σ1) ∧ r = some (.int 1) ∧ G' = HP A σ1)) noX := by
  refine TriH.ofV (own := RL) (mn := "bones") (by decide +kernel) rfl rfl (Nat.le_of_ble_eq_true rfl) ?_
  refine V_aload_n (i := 2) dL_bones_0 rfl rfl ?_
  refine V_iconst (v := 0) dL_bones_1 (by decide) ?_
  refine V_aload_n (i := 0) dL_bones_2 rfl rfl ?_
  refine V_iload_n (i := 1) dL_bones_3 rfl rfl ?_
  refine V_call (d := d) cv_L_35 dL_bones_4 hM (hp0 hA) rfl rfl rfl rfl (Nat.le_of_ble_eq_true rfl) ⟨Nat.le_refl _, Nat.le_refl _⟩ hd ⟨Nat.le_of_eq (Nat.zero_add _), Nat.le_of_eq (Nat.zero_add _)⟩ ?_ ?_
  · intro r G' h
    obtain ⟨σ1, v, rfl, rfl⟩ := hP r G' h
    refine V_i2l dL_bones_7 rfl ?_
    refine VA_30 dL_bones_8 hA ?_
    refine V_goto (tgt := 15) dL_bones_9 (by decide) ?_
    refine V_iconst (v := 0) dL_bones_15 (by decide) ?_
    refine V_iret dL_bones_16 rfl (Nat.le_of_eq (Nat.zero_add _)) (Nat.le_of_eq (Nat.zero_add _)) ?_
    exact Or.inl ⟨σ1, v, h, rfl, rfl⟩
  · intro E G' h
    obtain ⟨hE, σ1, rfl⟩ := hX E G' h
    rcases hE with rfl
    · refine VX_catch (pre := []) (x := (0, 9, 12, 13)) (suf := []) rfl (fun z hz => by cases hz) (by decide) (by decide) kl_13 kc_13 (fun q => ?_)
      refine V_astore_n (i := 3) dL_bones_12 rfl (by decide) ?_
      refine V_iconst (v := 1) dL_bones_13 (by decide) ?_
      refine V_iret dL_bones_14 rfl (Nat.le_of_eq (Nat.zero_add _)) (Nat.le_of_eq (Nat.zero_add _)) ?_
      exact Or.inr ⟨σ1, h, rfl, rfl⟩

set_option maxHeartbeats 4000000 in
set_option maxRecDepth 100000 in
theorem t_L_mop {D : va_G} {s0 : State} {l : Launch} {B : Nat} {A : AT} {σ : Sg} (hA : AOK B A) {a : Int32} {dX mX sX d : Nat} {Post : Option Value → GH → Prop} {PX : String → GH → Prop} (hM : Tri D s0 l yX7_mop cX7_mop 2 ((some .int)) dX mX sX [.ref (A 0 0 0), .int a] (HP A σ) Post PX) (hP : ∀ r G', Post r G' → ∃ (σ1 : Sg) (v : Int32), r = some (.int v) ∧ G' = HP A σ1) (hX : ∀ E G', PX E G' → (E = "java/lang/UnsupportedOperationException") ∧ ∃ σ1 : Sg, G' = HP A σ1) (hd : dX < d) : TriH D s0 l yL_mop cL_mop 4 (some .int) [(0, 9, 12, 13)] d mX sX [.ref (A 0 0 0), .int a, .ref (A 30 0 0)] (HP A σ) (fun r G' => (∃ (σ1 : Sg) (v : Int32), Post (some (.int v)) (HP A σ1) ∧ r = some (.int 0) ∧ G' = HP A (sl σ1 v.toInt64)) ∨ (∃ σ1 : Sg, PX "java/lang/UnsupportedOperationException" (HP A σ1) ∧ r = some (.int 1) ∧ G' = HP A σ1)) noX := by
  refine TriH.ofV (own := RL) (mn := "mop") (by decide +kernel) rfl rfl (Nat.le_of_ble_eq_true rfl) ?_
  refine V_aload_n (i := 2) dL_mop_0 rfl rfl ?_
  refine V_iconst (v := 0) dL_mop_1 (by decide) ?_
  refine V_aload_n (i := 0) dL_mop_2 rfl rfl ?_
  refine V_iload_n (i := 1) dL_mop_3 rfl rfl ?_
  refine V_call (d := d) cv_L_38 dL_mop_4 hM (hp0 hA) rfl rfl rfl rfl (Nat.le_of_ble_eq_true rfl) ⟨Nat.le_refl _, Nat.le_refl _⟩ hd ⟨Nat.le_of_eq (Nat.zero_add _), Nat.le_of_eq (Nat.zero_add _)⟩ ?_ ?_
  · intro r G' h
    obtain ⟨σ1, v, rfl, rfl⟩ := hP r G' h
    refine V_i2l dL_mop_7 rfl ?_
    refine VA_30 dL_mop_8 hA ?_
    refine V_goto (tgt := 15) dL_mop_9 (by decide) ?_
    refine V_iconst (v := 0) dL_mop_15 (by decide) ?_
    refine V_iret dL_mop_16 rfl (Nat.le_of_eq (Nat.zero_add _)) (Nat.le_of_eq (Nat.zero_add _)) ?_
    exact Or.inl ⟨σ1, v, h, rfl, rfl⟩
  · intro E G' h
    obtain ⟨hE, σ1, rfl⟩ := hX E G' h
    rcases hE with rfl
    · refine VX_catch (pre := []) (x := (0, 9, 12, 13)) (suf := []) rfl (fun z hz => by cases hz) (by decide) (by decide) kl_13 kc_13 (fun q => ?_)
      refine V_astore_n (i := 3) dL_mop_12 rfl (by decide) ?_
      refine V_iconst (v := 1) dL_mop_13 (by decide) ?_
      refine V_iret dL_mop_14 rfl (Nat.le_of_eq (Nat.zero_add _)) (Nat.le_of_eq (Nat.zero_add _)) ?_
      exact Or.inr ⟨σ1, h, rfl, rfl⟩

set_option maxHeartbeats 4000000 in
set_option maxRecDepth 100000 in
theorem t_L_pay {D : va_G} {s0 : State} {l : Launch} {B : Nat} {A : AT} {σ : Sg} (hA : AOK B A) {a : Int32} {b : Int32} {dX mX sX d : Nat} {Post : Option Value → GH → Prop} {PX : String → GH → Prop} (hM : Tri D s0 l yX7_pay cX7_pay 3 ((some .int)) dX mX sX [.ref (A 0 0 0), .int a, .int b] (HP A σ) Post PX) (hP : ∀ r G', Post r G' → ∃ (σ1 : Sg) (v : Int32), r = some (.int v) ∧ G' = HP A σ1) (hX : ∀ E G', PX E G' → (E = "java/lang/UnsupportedOperationException") ∧ ∃ σ1 : Sg, G' = HP A σ1) (hd : dX < d) : TriH D s0 l yL_pay cL_pay 5 (some .int) [(0, 10, 13, 13)] d mX sX [.ref (A 0 0 0), .int a, .int b, .ref (A 30 0 0)] (HP A σ) (fun r G' => (∃ (σ1 : Sg) (v : Int32), Post (some (.int v)) (HP A σ1) ∧ r = some (.int 0) ∧ G' = HP A (sl σ1 v.toInt64)) ∨ (∃ σ1 : Sg, PX "java/lang/UnsupportedOperationException" (HP A σ1) ∧ r = some (.int 1) ∧ G' = HP A σ1)) noX := by
  refine TriH.ofV (own := RL) (mn := "pay") (by decide +kernel) rfl rfl (Nat.le_of_ble_eq_true rfl) ?_
  refine V_aload_n (i := 3) dL_pay_0 rfl rfl ?_
  refine V_iconst (v := 0) dL_pay_1 (by decide) ?_
  refine V_aload_n (i := 0) dL_pay_2 rfl rfl ?_
  refine V_iload_n (i := 1) dL_pay_3 rfl rfl ?_
  refine V_iload_n (i := 2) dL_pay_4 rfl rfl ?_
  refine V_call (d := d) cv_L_41 dL_pay_5 hM (hp0 hA) rfl rfl rfl rfl (Nat.le_of_ble_eq_true rfl) ⟨Nat.le_refl _, Nat.le_refl _⟩ hd ⟨Nat.le_of_eq (Nat.zero_add _), Nat.le_of_eq (Nat.zero_add _)⟩ ?_ ?_
  · intro r G' h
    obtain ⟨σ1, v, rfl, rfl⟩ := hP r G' h
    refine V_i2l dL_pay_8 rfl ?_
    refine VA_30 dL_pay_9 hA ?_
    refine V_goto (tgt := 17) dL_pay_10 (by decide) ?_
    refine V_iconst (v := 0) dL_pay_17 (by decide) ?_
    refine V_iret dL_pay_18 rfl (Nat.le_of_eq (Nat.zero_add _)) (Nat.le_of_eq (Nat.zero_add _)) ?_
    exact Or.inl ⟨σ1, v, h, rfl, rfl⟩
  · intro E G' h
    obtain ⟨hE, σ1, rfl⟩ := hX E G' h
    rcases hE with rfl
    · refine VX_catch (pre := []) (x := (0, 10, 13, 13)) (suf := []) rfl (fun z hz => by cases hz) (by decide) (by decide) kl_13 kc_13 (fun q => ?_)
      refine V_astore (i := 4) dL_pay_13 (by decide) ?_
      refine V_iconst (v := 1) dL_pay_15 (by decide) ?_
      refine V_iret dL_pay_16 rfl (Nat.le_of_eq (Nat.zero_add _)) (Nat.le_of_eq (Nat.zero_add _)) ?_
      exact Or.inr ⟨σ1, h, rfl, rfl⟩

set_option maxHeartbeats 4000000 in
set_option maxRecDepth 100000 in
theorem t_L_shoe {D : va_G} {s0 : State} {l : Launch} {B : Nat} {A : AT} {σ : Sg} (hA : AOK B A) {a : Int32} {dX mX sX d : Nat} {Post : Option Value → GH → Prop} {PX : String → GH → Prop} (hM : Tri D s0 l yX7_shoe cX7_shoe 2 ((some .int)) dX mX sX [.ref (A 0 0 0), .int a] (HP A σ) Post PX) (hP : ∀ r G', Post r G' → ∃ (σ1 : Sg) (v : Int32), r = some (.int v) ∧ G' = HP A σ1) (hX : ∀ E G', PX E G' → (E = "java/lang/UnsupportedOperationException") ∧ ∃ σ1 : Sg, G' = HP A σ1) (hd : dX < d) : TriH D s0 l yL_shoe cL_shoe 4 (some .int) [(0, 9, 12, 13)] d mX sX [.ref (A 0 0 0), .int a, .ref (A 30 0 0)] (HP A σ) (fun r G' => (∃ (σ1 : Sg) (v : Int32), Post (some (.int v)) (HP A σ1) ∧ r = some (.int 0) ∧ G' = HP A (sl σ1 v.toInt64)) ∨ (∃ σ1 : Sg, PX "java/lang/UnsupportedOperationException" (HP A σ1) ∧ r = some (.int 1) ∧ G' = HP A σ1)) noX := by
  refine TriH.ofV (own := RL) (mn := "shoe") (by decide +kernel) rfl rfl (Nat.le_of_ble_eq_true rfl) ?_
  refine V_aload_n (i := 2) dL_shoe_0 rfl rfl ?_
  refine V_iconst (v := 0) dL_shoe_1 (by decide) ?_
  refine V_aload_n (i := 0) dL_shoe_2 rfl rfl ?_
  refine V_iload_n (i := 1) dL_shoe_3 rfl rfl ?_
  refine V_call (d := d) cv_L_44 dL_shoe_4 hM (hp0 hA) rfl rfl rfl rfl (Nat.le_of_ble_eq_true rfl) ⟨Nat.le_refl _, Nat.le_refl _⟩ hd ⟨Nat.le_of_eq (Nat.zero_add _), Nat.le_of_eq (Nat.zero_add _)⟩ ?_ ?_
  · intro r G' h
    obtain ⟨σ1, v, rfl, rfl⟩ := hP r G' h
    refine V_i2l dL_shoe_7 rfl ?_
    refine VA_30 dL_shoe_8 hA ?_
    refine V_goto (tgt := 15) dL_shoe_9 (by decide) ?_
    refine V_iconst (v := 0) dL_shoe_15 (by decide) ?_
    refine V_iret dL_shoe_16 rfl (Nat.le_of_eq (Nat.zero_add _)) (Nat.le_of_eq (Nat.zero_add _)) ?_
    exact Or.inl ⟨σ1, v, h, rfl, rfl⟩
  · intro E G' h
    obtain ⟨hE, σ1, rfl⟩ := hX E G' h
    rcases hE with rfl
    · refine VX_catch (pre := []) (x := (0, 9, 12, 13)) (suf := []) rfl (fun z hz => by cases hz) (by decide) (by decide) kl_13 kc_13 (fun q => ?_)
      refine V_astore_n (i := 3) dL_shoe_12 rfl (by decide) ?_
      refine V_iconst (v := 1) dL_shoe_13 (by decide) ?_
      refine V_iret dL_shoe_14 rfl (Nat.le_of_eq (Nat.zero_add _)) (Nat.le_of_eq (Nat.zero_add _)) ?_
      exact Or.inr ⟨σ1, h, rfl, rfl⟩

set_option maxHeartbeats 4000000 in
set_option maxRecDepth 100000 in
theorem t_L_days {D : va_G} {s0 : State} {l : Launch} {B : Nat} {A : AT} {σ : Sg} (hA : AOK B A) {a : Int32} {dX mX sX d : Nat} {Post : Option Value → GH → Prop} {PX : String → GH → Prop} (hM : Tri D s0 l yX7_days cX7_days 2 ((some .int)) dX mX sX [.ref (A 0 0 0), .int a] (HP A σ) Post PX) (hP : ∀ r G', Post r G' → ∃ (σ1 : Sg) (v : Int32), r = some (.int v) ∧ G' = HP A σ1) (hX : ∀ E G', PX E G' → (E = "java/lang/UnsupportedOperationException") ∧ ∃ σ1 : Sg, G' = HP A σ1) (hd : dX < d) : TriH D s0 l yL_days cL_days 4 (some .int) [(0, 9, 12, 13)] d mX sX [.ref (A 0 0 0), .int a, .ref (A 30 0 0)] (HP A σ) (fun r G' => (∃ (σ1 : Sg) (v : Int32), Post (some (.int v)) (HP A σ1) ∧ r = some (.int 0) ∧ G' = HP A (sl σ1 v.toInt64)) ∨ (∃ σ1 : Sg, PX "java/lang/UnsupportedOperationException" (HP A σ1) ∧ r = some (.int 1) ∧ G' = HP A σ1)) noX := by
  refine TriH.ofV (own := RL) (mn := "days") (by decide +kernel) rfl rfl (Nat.le_of_ble_eq_true rfl) ?_
  refine V_aload_n (i := 2) dL_days_0 rfl rfl ?_
  refine V_iconst (v := 0) dL_days_1 (by decide) ?_
  refine V_aload_n (i := 0) dL_days_2 rfl rfl ?_
  refine V_iload_n (i := 1) dL_days_3 rfl rfl ?_
  refine V_call (d := d) cv_L_47 dL_days_4 hM (hp0 hA) rfl rfl rfl rfl (Nat.le_of_ble_eq_true rfl) ⟨Nat.le_refl _, Nat.le_refl _⟩ hd ⟨Nat.le_of_eq (Nat.zero_add _), Nat.le_of_eq (Nat.zero_add _)⟩ ?_ ?_
  · intro r G' h
    obtain ⟨σ1, v, rfl, rfl⟩ := hP r G' h
    refine V_i2l dL_days_7 rfl ?_
    refine VA_30 dL_days_8 hA ?_
    refine V_goto (tgt := 15) dL_days_9 (by decide) ?_
    refine V_iconst (v := 0) dL_days_15 (by decide) ?_
    refine V_iret dL_days_16 rfl (Nat.le_of_eq (Nat.zero_add _)) (Nat.le_of_eq (Nat.zero_add _)) ?_
    exact Or.inl ⟨σ1, v, h, rfl, rfl⟩
  · intro E G' h
    obtain ⟨hE, σ1, rfl⟩ := hX E G' h
    rcases hE with rfl
    · refine VX_catch (pre := []) (x := (0, 9, 12, 13)) (suf := []) rfl (fun z hz => by cases hz) (by decide) (by decide) kl_13 kc_13 (fun q => ?_)
      refine V_astore_n (i := 3) dL_days_12 rfl (by decide) ?_
      refine V_iconst (v := 1) dL_days_13 (by decide) ?_
      refine V_iret dL_days_14 rfl (Nat.le_of_eq (Nat.zero_add _)) (Nat.le_of_eq (Nat.zero_add _)) ?_
      exact Or.inr ⟨σ1, h, rfl, rfl⟩

set_option maxHeartbeats 4000000 in
set_option maxRecDepth 100000 in
theorem t_L_houseOf {D : va_G} {s0 : State} {l : Launch} {B : Nat} {A : AT} {σ : Sg} (hA : AOK B A) {a : Int32} {b : Int32} {dX mX sX d : Nat} {Post : Option Value → GH → Prop} {PX : String → GH → Prop} (hM : Tri D s0 l yX7_houseOf cX7_houseOf 4 ((some .int)) dX mX sX [.ref (A 0 0 0), .int a, .int b] (HP A σ) Post PX) (hP : ∀ r G', Post r G' → ∃ (σ1 : Sg) (v : Int32), r = some (.int v) ∧ G' = HP A σ1) (hX : ∀ E G', PX E G' → (E = "java/lang/IndexOutOfBoundsException" ∨ E = "java/lang/IllegalArgumentException") ∧ ∃ σ1 : Sg, G' = HP A σ1) (hd : dX < d) : TriH D s0 l yL_houseOf cL_houseOf 5 (some .int) [(0, 10, 13, 53), (0, 10, 17, 55)] d mX sX [.ref (A 0 0 0), .int a, .int b, .ref (A 30 0 0)] (HP A σ) (fun r G' => (∃ (σ1 : Sg) (v : Int32), Post (some (.int v)) (HP A σ1) ∧ r = some (.int 0) ∧ G' = HP A (sl σ1 v.toInt64)) ∨ (∃ σ1 : Sg, PX "java/lang/IndexOutOfBoundsException" (HP A σ1) ∧ r = some (.int 1) ∧ G' = HP A σ1) ∨ (∃ σ1 : Sg, PX "java/lang/IllegalArgumentException" (HP A σ1) ∧ r = some (.int 2) ∧ G' = HP A σ1)) noX := by
  refine TriH.ofV (own := RL) (mn := "houseOf") (by decide +kernel) rfl rfl (Nat.le_of_ble_eq_true rfl) ?_
  refine V_aload_n (i := 3) dL_houseOf_0 rfl rfl ?_
  refine V_iconst (v := 0) dL_houseOf_1 (by decide) ?_
  refine V_aload_n (i := 0) dL_houseOf_2 rfl rfl ?_
  refine V_iload_n (i := 1) dL_houseOf_3 rfl rfl ?_
  refine V_iload_n (i := 2) dL_houseOf_4 rfl rfl ?_
  refine V_call (d := d) cv_L_50 dL_houseOf_5 hM (hp0 hA) rfl rfl rfl rfl (Nat.le_of_ble_eq_true rfl) ⟨Nat.le_refl _, Nat.le_refl _⟩ hd ⟨Nat.le_of_eq (Nat.zero_add _), Nat.le_of_eq (Nat.zero_add _)⟩ ?_ ?_
  · intro r G' h
    obtain ⟨σ1, v, rfl, rfl⟩ := hP r G' h
    refine V_i2l dL_houseOf_8 rfl ?_
    refine VA_30 dL_houseOf_9 hA ?_
    refine V_goto (tgt := 21) dL_houseOf_10 (by decide) ?_
    refine V_iconst (v := 0) dL_houseOf_21 (by decide) ?_
    refine V_iret dL_houseOf_22 rfl (Nat.le_of_eq (Nat.zero_add _)) (Nat.le_of_eq (Nat.zero_add _)) ?_
    exact Or.inl ⟨σ1, v, h, rfl, rfl⟩
  · intro E G' h
    obtain ⟨hE, σ1, rfl⟩ := hX E G' h
    rcases hE with rfl | rfl
    · refine VX_catch (pre := []) (x := (0, 10, 13, 53)) (suf := [(0, 10, 17, 55)]) rfl (fun z hz => by cases hz) (by decide) (by decide) kl_53 kc_53 (fun q => ?_)
      refine V_astore (i := 4) dL_houseOf_13 (by decide) ?_
      refine V_iconst (v := 1) dL_houseOf_15 (by decide) ?_
      refine V_iret dL_houseOf_16 rfl (Nat.le_of_eq (Nat.zero_add _)) (Nat.le_of_eq (Nat.zero_add _)) ?_
      exact Or.inr (Or.inl ⟨σ1, h, rfl, rfl⟩)
    · refine VX_catch (pre := [(0, 10, 13, 53)]) (x := (0, 10, 17, 55)) (suf := []) rfl (fun z hz => by cases hz with | head => exact ⟨"java/lang/IndexOutOfBoundsException", 279, by decide, kl_53, by decide +kernel⟩ | tail _ h9 => cases h9) (by decide) (by decide) kl_55 kc_55 (fun q => ?_)
      refine V_astore (i := 4) dL_houseOf_17 (by decide) ?_
      refine V_iconst (v := 2) dL_houseOf_19 (by decide) ?_
      refine V_iret dL_houseOf_20 rfl (Nat.le_of_eq (Nat.zero_add _)) (Nat.le_of_eq (Nat.zero_add _)) ?_
      exact Or.inr (Or.inr ⟨σ1, h, rfl, rfl⟩)

set_option maxHeartbeats 4000000 in
set_option maxRecDepth 100000 in
theorem t_L_carrierOf {D : va_G} {s0 : State} {l : Launch} {B : Nat} {A : AT} {σ : Sg} (hA : AOK B A) {a : Int32} {b : Int32} {dX mX sX d : Nat} {Post : Option Value → GH → Prop} {PX : String → GH → Prop} (hM : Tri D s0 l yX7_carrierOf cX7_carrierOf 4 ((some .int)) dX mX sX [.ref (A 0 0 0), .int a, .int b] (HP A σ) Post PX) (hP : ∀ r G', Post r G' → ∃ (σ1 : Sg) (v : Int32), r = some (.int v) ∧ G' = HP A σ1) (hX : ∀ E G', PX E G' → (E = "java/lang/IndexOutOfBoundsException" ∨ E = "java/lang/IllegalArgumentException") ∧ ∃ σ1 : Sg, G' = HP A σ1) (hd : dX < d) : TriH D s0 l yL_carrierOf cL_carrierOf 5 (some .int) [(0, 10, 13, 53), (0, 10, 17, 55)] d mX sX [.ref (A 0 0 0), .int a, .int b, .ref (A 30 0 0)] (HP A σ) (fun r G' => (∃ (σ1 : Sg) (v : Int32), Post (some (.int v)) (HP A σ1) ∧ r = some (.int 0) ∧ G' = HP A (sl σ1 v.toInt64)) ∨ (∃ σ1 : Sg, PX "java/lang/IndexOutOfBoundsException" (HP A σ1) ∧ r = some (.int 1) ∧ G' = HP A σ1) ∨ (∃ σ1 : Sg, PX "java/lang/IllegalArgumentException" (HP A σ1) ∧ r = some (.int 2) ∧ G' = HP A σ1)) noX := by
  refine TriH.ofV (own := RL) (mn := "carrierOf") (by decide +kernel) rfl rfl (Nat.le_of_ble_eq_true rfl) ?_
  refine V_aload_n (i := 3) dL_carrierOf_0 rfl rfl ?_
  refine V_iconst (v := 0) dL_carrierOf_1 (by decide) ?_
  refine V_aload_n (i := 0) dL_carrierOf_2 rfl rfl ?_
  refine V_iload_n (i := 1) dL_carrierOf_3 rfl rfl ?_
  refine V_iload_n (i := 2) dL_carrierOf_4 rfl rfl ?_
  refine V_call (d := d) cv_L_57 dL_carrierOf_5 hM (hp0 hA) rfl rfl rfl rfl (Nat.le_of_ble_eq_true rfl) ⟨Nat.le_refl _, Nat.le_refl _⟩ hd ⟨Nat.le_of_eq (Nat.zero_add _), Nat.le_of_eq (Nat.zero_add _)⟩ ?_ ?_
  · intro r G' h
    obtain ⟨σ1, v, rfl, rfl⟩ := hP r G' h
    refine V_i2l dL_carrierOf_8 rfl ?_
    refine VA_30 dL_carrierOf_9 hA ?_
    refine V_goto (tgt := 21) dL_carrierOf_10 (by decide) ?_
    refine V_iconst (v := 0) dL_carrierOf_21 (by decide) ?_
    refine V_iret dL_carrierOf_22 rfl (Nat.le_of_eq (Nat.zero_add _)) (Nat.le_of_eq (Nat.zero_add _)) ?_
    exact Or.inl ⟨σ1, v, h, rfl, rfl⟩
  · intro E G' h
    obtain ⟨hE, σ1, rfl⟩ := hX E G' h
    rcases hE with rfl | rfl
    · refine VX_catch (pre := []) (x := (0, 10, 13, 53)) (suf := [(0, 10, 17, 55)]) rfl (fun z hz => by cases hz) (by decide) (by decide) kl_53 kc_53 (fun q => ?_)
      refine V_astore (i := 4) dL_carrierOf_13 (by decide) ?_
      refine V_iconst (v := 1) dL_carrierOf_15 (by decide) ?_
      refine V_iret dL_carrierOf_16 rfl (Nat.le_of_eq (Nat.zero_add _)) (Nat.le_of_eq (Nat.zero_add _)) ?_
      exact Or.inr (Or.inl ⟨σ1, h, rfl, rfl⟩)
    · refine VX_catch (pre := [(0, 10, 13, 53)]) (x := (0, 10, 17, 55)) (suf := []) rfl (fun z hz => by cases hz with | head => exact ⟨"java/lang/IndexOutOfBoundsException", 279, by decide, kl_53, by decide +kernel⟩ | tail _ h9 => cases h9) (by decide) (by decide) kl_55 kc_55 (fun q => ?_)
      refine V_astore (i := 4) dL_carrierOf_17 (by decide) ?_
      refine V_iconst (v := 2) dL_carrierOf_19 (by decide) ?_
      refine V_iret dL_carrierOf_20 rfl (Nat.le_of_eq (Nat.zero_add _)) (Nat.le_of_eq (Nat.zero_add _)) ?_
      exact Or.inr (Or.inr ⟨σ1, h, rfl, rfl⟩)

set_option maxHeartbeats 4000000 in
set_option maxRecDepth 100000 in
theorem t_L_shoeOf {D : va_G} {s0 : State} {l : Launch} {B : Nat} {A : AT} {σ : Sg} (hA : AOK B A) {a : Int32} {dX mX sX d : Nat} {Post : Option Value → GH → Prop} {PX : String → GH → Prop} (hM : Tri D s0 l yX7_shoeOf cX7_shoeOf 2 ((some .int)) dX mX sX [.ref (A 0 0 0), .int a] (HP A σ) Post PX) (hP : ∀ r G', Post r G' → ∃ (σ1 : Sg) (v : Int32), r = some (.int v) ∧ G' = HP A σ1) (hX : ∀ E G', PX E G' → (E = "java/lang/IndexOutOfBoundsException") ∧ ∃ σ1 : Sg, G' = HP A σ1) (hd : dX < d) : TriH D s0 l yL_shoeOf cL_shoeOf 4 (some .int) [(0, 9, 12, 53)] d mX sX [.ref (A 0 0 0), .int a, .ref (A 30 0 0)] (HP A σ) (fun r G' => (∃ (σ1 : Sg) (v : Int32), Post (some (.int v)) (HP A σ1) ∧ r = some (.int 0) ∧ G' = HP A (sl σ1 v.toInt64)) ∨ (∃ σ1 : Sg, PX "java/lang/IndexOutOfBoundsException" (HP A σ1) ∧ r = some (.int 1) ∧ G' = HP A σ1)) noX := by
  refine TriH.ofV (own := RL) (mn := "shoeOf") (by decide +kernel) rfl rfl (Nat.le_of_ble_eq_true rfl) ?_
  refine V_aload_n (i := 2) dL_shoeOf_0 rfl rfl ?_
  refine V_iconst (v := 0) dL_shoeOf_1 (by decide) ?_
  refine V_aload_n (i := 0) dL_shoeOf_2 rfl rfl ?_
  refine V_iload_n (i := 1) dL_shoeOf_3 rfl rfl ?_
  refine V_call (d := d) cv_L_60 dL_shoeOf_4 hM (hp0 hA) rfl rfl rfl rfl (Nat.le_of_ble_eq_true rfl) ⟨Nat.le_refl _, Nat.le_refl _⟩ hd ⟨Nat.le_of_eq (Nat.zero_add _), Nat.le_of_eq (Nat.zero_add _)⟩ ?_ ?_
  · intro r G' h
    obtain ⟨σ1, v, rfl, rfl⟩ := hP r G' h
    refine V_i2l dL_shoeOf_7 rfl ?_
    refine VA_30 dL_shoeOf_8 hA ?_
    refine V_goto (tgt := 15) dL_shoeOf_9 (by decide) ?_
    refine V_iconst (v := 0) dL_shoeOf_15 (by decide) ?_
    refine V_iret dL_shoeOf_16 rfl (Nat.le_of_eq (Nat.zero_add _)) (Nat.le_of_eq (Nat.zero_add _)) ?_
    exact Or.inl ⟨σ1, v, h, rfl, rfl⟩
  · intro E G' h
    obtain ⟨hE, σ1, rfl⟩ := hX E G' h
    rcases hE with rfl
    · refine VX_catch (pre := []) (x := (0, 9, 12, 53)) (suf := []) rfl (fun z hz => by cases hz) (by decide) (by decide) kl_53 kc_53 (fun q => ?_)
      refine V_astore_n (i := 3) dL_shoeOf_12 rfl (by decide) ?_
      refine V_iconst (v := 1) dL_shoeOf_13 (by decide) ?_
      refine V_iret dL_shoeOf_14 rfl (Nat.le_of_eq (Nat.zero_add _)) (Nat.le_of_eq (Nat.zero_add _)) ?_
      exact Or.inr ⟨σ1, h, rfl, rfl⟩

set_option maxHeartbeats 4000000 in
set_option maxRecDepth 100000 in
theorem t_L_tires {D : va_G} {s0 : State} {l : Launch} {B : Nat} {A : AT} {σ : Sg} (hA : AOK B A) {a : Int32} {b : Int32} {dX mX sX d : Nat} {Post : Option Value → GH → Prop} {PX : String → GH → Prop} (hM : Tri D s0 l yX7_tires cX7_tires 5 ((some .int)) dX mX sX [.ref (A 0 0 0), .int a, .int b] (HP A σ) Post PX) (hP : ∀ r G', Post r G' → ∃ (σ1 : Sg) (v : Int32), r = some (.int v) ∧ G' = HP A σ1) (hX : ∀ E G', PX E G' → (E = "java/lang/IndexOutOfBoundsException") ∧ ∃ σ1 : Sg, G' = HP A σ1) (hd : dX < d) : TriH D s0 l yL_tires cL_tires 5 (some .int) [(0, 10, 13, 53)] d mX sX [.ref (A 0 0 0), .int a, .int b, .ref (A 30 0 0)] (HP A σ) (fun r G' => (∃ (σ1 : Sg) (v : Int32), Post (some (.int v)) (HP A σ1) ∧ r = some (.int 0) ∧ G' = HP A (sl σ1 v.toInt64)) ∨ (∃ σ1 : Sg, PX "java/lang/IndexOutOfBoundsException" (HP A σ1) ∧ r = some (.int 1) ∧ G' = HP A σ1)) noX := by
  refine TriH.ofV (own := RL) (mn := "tires") (by decide +kernel) rfl rfl (Nat.le_of_ble_eq_true rfl) ?_
  refine V_aload_n (i := 3) dL_tires_0 rfl rfl ?_
  refine V_iconst (v := 0) dL_tires_1 (by decide) ?_
  refine V_aload_n (i := 0) dL_tires_2 rfl rfl ?_
  refine V_iload_n (i := 1) dL_tires_3 rfl rfl ?_
  refine V_iload_n (i := 2) dL_tires_4 rfl rfl ?_
  refine V_call (d := d) cv_L_63 dL_tires_5 hM (hp0 hA) rfl rfl rfl rfl (Nat.le_of_ble_eq_true rfl) ⟨Nat.le_refl _, Nat.le_refl _⟩ hd ⟨Nat.le_of_eq (Nat.zero_add _), Nat.le_of_eq (Nat.zero_add _)⟩ ?_ ?_
  · intro r G' h
    obtain ⟨σ1, v, rfl, rfl⟩ := hP r G' h
    refine V_i2l dL_tires_8 rfl ?_
    refine VA_30 dL_tires_9 hA ?_
    refine V_goto (tgt := 17) dL_tires_10 (by decide) ?_
    refine V_iconst (v := 0) dL_tires_17 (by decide) ?_
    refine V_iret dL_tires_18 rfl (Nat.le_of_eq (Nat.zero_add _)) (Nat.le_of_eq (Nat.zero_add _)) ?_
    exact Or.inl ⟨σ1, v, h, rfl, rfl⟩
  · intro E G' h
    obtain ⟨hE, σ1, rfl⟩ := hX E G' h
    rcases hE with rfl
    · refine VX_catch (pre := []) (x := (0, 10, 13, 53)) (suf := []) rfl (fun z hz => by cases hz) (by decide) (by decide) kl_53 kc_53 (fun q => ?_)
      refine V_astore (i := 4) dL_tires_13 (by decide) ?_
      refine V_iconst (v := 1) dL_tires_15 (by decide) ?_
      refine V_iret dL_tires_16 rfl (Nat.le_of_eq (Nat.zero_add _)) (Nat.le_of_eq (Nat.zero_add _)) ?_
      exact Or.inr ⟨σ1, h, rfl, rfl⟩

set_option maxHeartbeats 4000000 in
set_option maxRecDepth 100000 in
theorem t_L_canCarry {D : va_G} {s0 : State} {l : Launch} {B : Nat} {A : AT} {σ : Sg} (hA : AOK B A) {a : Int32} {b : Int32} {dX mX sX d : Nat} {Post : Option Value → GH → Prop} {PX : String → GH → Prop} (hM : Tri D s0 l yX7_canCarry cX7_canCarry 5 ((some .int)) dX mX sX [.ref (A 0 0 0), .int a, .int b] (HP A σ) Post PX) (hP : ∀ r G', Post r G' → ∃ (σ1 : Sg) (v : Int32), r = some (.int v) ∧ G' = HP A σ1) (hX : ∀ E G', PX E G' → (E = "java/lang/IndexOutOfBoundsException") ∧ ∃ σ1 : Sg, G' = HP A σ1) (hd : dX < d) : TriH D s0 l yL_canCarry cL_canCarry 5 (some .int) [(0, 10, 13, 53)] d mX sX [.ref (A 0 0 0), .int a, .int b, .ref (A 30 0 0)] (HP A σ) (fun r G' => (∃ (σ1 : Sg) (v : Int32), Post (some (.int v)) (HP A σ1) ∧ r = some (.int 0) ∧ G' = HP A (sl σ1 v.toInt64)) ∨ (∃ σ1 : Sg, PX "java/lang/IndexOutOfBoundsException" (HP A σ1) ∧ r = some (.int 1) ∧ G' = HP A σ1)) noX := by
  refine TriH.ofV (own := RL) (mn := "canCarry") (by decide +kernel) rfl rfl (Nat.le_of_ble_eq_true rfl) ?_
  refine V_aload_n (i := 3) dL_canCarry_0 rfl rfl ?_
  refine V_iconst (v := 0) dL_canCarry_1 (by decide) ?_
  refine V_aload_n (i := 0) dL_canCarry_2 rfl rfl ?_
  refine V_iload_n (i := 1) dL_canCarry_3 rfl rfl ?_
  refine V_iload_n (i := 2) dL_canCarry_4 rfl rfl ?_
  refine V_call (d := d) cv_L_66 dL_canCarry_5 hM (hp0 hA) rfl rfl rfl rfl (Nat.le_of_ble_eq_true rfl) ⟨Nat.le_refl _, Nat.le_refl _⟩ hd ⟨Nat.le_of_eq (Nat.zero_add _), Nat.le_of_eq (Nat.zero_add _)⟩ ?_ ?_
  · intro r G' h
    obtain ⟨σ1, v, rfl, rfl⟩ := hP r G' h
    refine V_i2l dL_canCarry_8 rfl ?_
    refine VA_30 dL_canCarry_9 hA ?_
    refine V_goto (tgt := 17) dL_canCarry_10 (by decide) ?_
    refine V_iconst (v := 0) dL_canCarry_17 (by decide) ?_
    refine V_iret dL_canCarry_18 rfl (Nat.le_of_eq (Nat.zero_add _)) (Nat.le_of_eq (Nat.zero_add _)) ?_
    exact Or.inl ⟨σ1, v, h, rfl, rfl⟩
  · intro E G' h
    obtain ⟨hE, σ1, rfl⟩ := hX E G' h
    rcases hE with rfl
    · refine VX_catch (pre := []) (x := (0, 10, 13, 53)) (suf := []) rfl (fun z hz => by cases hz) (by decide) (by decide) kl_53 kc_53 (fun q => ?_)
      refine V_astore (i := 4) dL_canCarry_13 (by decide) ?_
      refine V_iconst (v := 1) dL_canCarry_15 (by decide) ?_
      refine V_iret dL_canCarry_16 rfl (Nat.le_of_eq (Nat.zero_add _)) (Nat.le_of_eq (Nat.zero_add _)) ?_
      exact Or.inr ⟨σ1, h, rfl, rfl⟩

set_option maxHeartbeats 4000000 in
set_option maxRecDepth 100000 in
theorem t_L_mayCarry {D : va_G} {s0 : State} {l : Launch} {B : Nat} {A : AT} {σ : Sg} (hA : AOK B A) {a : Int32} {dX mX sX d : Nat} {Post : Option Value → GH → Prop} {PX : String → GH → Prop} (hM : Tri D s0 l yX7_mayCarry cX7_mayCarry 3 ((some .int)) dX mX sX [.ref (A 0 0 0), .int a] (HP A σ) Post PX) (hP : ∀ r G', Post r G' → ∃ (σ1 : Sg) (v : Int32), r = some (.int v) ∧ G' = HP A σ1) (hX : ∀ E G', PX E G' → (E = "java/lang/IndexOutOfBoundsException") ∧ ∃ σ1 : Sg, G' = HP A σ1) (hd : dX < d) : TriH D s0 l yL_mayCarry cL_mayCarry 4 (some .int) [(0, 9, 12, 53)] d mX sX [.ref (A 0 0 0), .int a, .ref (A 30 0 0)] (HP A σ) (fun r G' => (∃ (σ1 : Sg) (v : Int32), Post (some (.int v)) (HP A σ1) ∧ r = some (.int 0) ∧ G' = HP A (sl σ1 v.toInt64)) ∨ (∃ σ1 : Sg, PX "java/lang/IndexOutOfBoundsException" (HP A σ1) ∧ r = some (.int 1) ∧ G' = HP A σ1)) noX := by
  refine TriH.ofV (own := RL) (mn := "mayCarry") (by decide +kernel) rfl rfl (Nat.le_of_ble_eq_true rfl) ?_
  refine V_aload_n (i := 2) dL_mayCarry_0 rfl rfl ?_
  refine V_iconst (v := 0) dL_mayCarry_1 (by decide) ?_
  refine V_aload_n (i := 0) dL_mayCarry_2 rfl rfl ?_
  refine V_iload_n (i := 1) dL_mayCarry_3 rfl rfl ?_
  refine V_call (d := d) cv_L_69 dL_mayCarry_4 hM (hp0 hA) rfl rfl rfl rfl (Nat.le_of_ble_eq_true rfl) ⟨Nat.le_refl _, Nat.le_refl _⟩ hd ⟨Nat.le_of_eq (Nat.zero_add _), Nat.le_of_eq (Nat.zero_add _)⟩ ?_ ?_
  · intro r G' h
    obtain ⟨σ1, v, rfl, rfl⟩ := hP r G' h
    refine V_i2l dL_mayCarry_7 rfl ?_
    refine VA_30 dL_mayCarry_8 hA ?_
    refine V_goto (tgt := 15) dL_mayCarry_9 (by decide) ?_
    refine V_iconst (v := 0) dL_mayCarry_15 (by decide) ?_
    refine V_iret dL_mayCarry_16 rfl (Nat.le_of_eq (Nat.zero_add _)) (Nat.le_of_eq (Nat.zero_add _)) ?_
    exact Or.inl ⟨σ1, v, h, rfl, rfl⟩
  · intro E G' h
    obtain ⟨hE, σ1, rfl⟩ := hX E G' h
    rcases hE with rfl
    · refine VX_catch (pre := []) (x := (0, 9, 12, 53)) (suf := []) rfl (fun z hz => by cases hz) (by decide) (by decide) kl_53 kc_53 (fun q => ?_)
      refine V_astore_n (i := 3) dL_mayCarry_12 rfl (by decide) ?_
      refine V_iconst (v := 1) dL_mayCarry_13 (by decide) ?_
      refine V_iret dL_mayCarry_14 rfl (Nat.le_of_eq (Nat.zero_add _)) (Nat.le_of_eq (Nat.zero_add _)) ?_
      exact Or.inr ⟨σ1, h, rfl, rfl⟩

set_option maxHeartbeats 4000000 in
set_option maxRecDepth 100000 in
theorem t_L_bestCarrier {D : va_G} {s0 : State} {l : Launch} {B : Nat} {A : AT} {σ : Sg} (hA : AOK B A) {a : Int32} {dX mX sX d : Nat} {Post : Option Value → GH → Prop} {PX : String → GH → Prop} (hM : Tri D s0 l yX7_bestCarrier cX7_bestCarrier 4 ((some .int)) dX mX sX [.ref (A 0 0 0), .int a] (HP A σ) Post PX) (hP : ∀ r G', Post r G' → ∃ (σ1 : Sg) (v : Int32), r = some (.int v) ∧ G' = HP A σ1) (hX : ∀ E G', PX E G' → (E = "java/lang/IndexOutOfBoundsException" ∨ E = "java/util/NoSuchElementException") ∧ ∃ σ1 : Sg, G' = HP A σ1) (hd : dX < d) : TriH D s0 l yL_bestCarrier cL_bestCarrier 4 (some .int) [(0, 9, 12, 53), (0, 9, 15, 75)] d mX sX [.ref (A 0 0 0), .int a, .ref (A 30 0 0)] (HP A σ) (fun r G' => (∃ (σ1 : Sg) (v : Int32), Post (some (.int v)) (HP A σ1) ∧ r = some (.int 0) ∧ G' = HP A (sl σ1 v.toInt64)) ∨ (∃ σ1 : Sg, PX "java/lang/IndexOutOfBoundsException" (HP A σ1) ∧ r = some (.int 1) ∧ G' = HP A σ1) ∨ (∃ σ1 : Sg, PX "java/util/NoSuchElementException" (HP A σ1) ∧ r = some (.int 2) ∧ G' = HP A σ1)) noX := by
  refine TriH.ofV (own := RL) (mn := "bestCarrier") (by decide +kernel) rfl rfl (Nat.le_of_ble_eq_true rfl) ?_
  refine V_aload_n (i := 2) dL_bestCarrier_0 rfl rfl ?_
  refine V_iconst (v := 0) dL_bestCarrier_1 (by decide) ?_
  refine V_aload_n (i := 0) dL_bestCarrier_2 rfl rfl ?_
  refine V_iload_n (i := 1) dL_bestCarrier_3 rfl rfl ?_
  refine V_call (d := d) cv_L_72 dL_bestCarrier_4 hM (hp0 hA) rfl rfl rfl rfl (Nat.le_of_ble_eq_true rfl) ⟨Nat.le_refl _, Nat.le_refl _⟩ hd ⟨Nat.le_of_eq (Nat.zero_add _), Nat.le_of_eq (Nat.zero_add _)⟩ ?_ ?_
  · intro r G' h
    obtain ⟨σ1, v, rfl, rfl⟩ := hP r G' h
    refine V_i2l dL_bestCarrier_7 rfl ?_
    refine VA_30 dL_bestCarrier_8 hA ?_
    refine V_goto (tgt := 18) dL_bestCarrier_9 (by decide) ?_
    refine V_iconst (v := 0) dL_bestCarrier_18 (by decide) ?_
    refine V_iret dL_bestCarrier_19 rfl (Nat.le_of_eq (Nat.zero_add _)) (Nat.le_of_eq (Nat.zero_add _)) ?_
    exact Or.inl ⟨σ1, v, h, rfl, rfl⟩
  · intro E G' h
    obtain ⟨hE, σ1, rfl⟩ := hX E G' h
    rcases hE with rfl | rfl
    · refine VX_catch (pre := []) (x := (0, 9, 12, 53)) (suf := [(0, 9, 15, 75)]) rfl (fun z hz => by cases hz) (by decide) (by decide) kl_53 kc_53 (fun q => ?_)
      refine V_astore_n (i := 3) dL_bestCarrier_12 rfl (by decide) ?_
      refine V_iconst (v := 1) dL_bestCarrier_13 (by decide) ?_
      refine V_iret dL_bestCarrier_14 rfl (Nat.le_of_eq (Nat.zero_add _)) (Nat.le_of_eq (Nat.zero_add _)) ?_
      exact Or.inr (Or.inl ⟨σ1, h, rfl, rfl⟩)
    · refine VX_catch (pre := [(0, 9, 12, 53)]) (x := (0, 9, 15, 75)) (suf := []) rfl (fun z hz => by cases hz with | head => exact ⟨"java/lang/IndexOutOfBoundsException", 280, by decide, kl_53, by decide +kernel⟩ | tail _ h9 => cases h9) (by decide) (by decide) kl_75 kc_75 (fun q => ?_)
      refine V_astore_n (i := 3) dL_bestCarrier_15 rfl (by decide) ?_
      refine V_iconst (v := 2) dL_bestCarrier_16 (by decide) ?_
      refine V_iret dL_bestCarrier_17 rfl (Nat.le_of_eq (Nat.zero_add _)) (Nat.le_of_eq (Nat.zero_add _)) ?_
      exact Or.inr (Or.inr ⟨σ1, h, rfl, rfl⟩)

set_option maxHeartbeats 4000000 in
set_option maxRecDepth 100000 in
theorem t_L_isQuiet {D : va_G} {s0 : State} {l : Launch} {B : Nat} {A : AT} {σ : Sg} (hA : AOK B A) {a : Int32} {dX mX sX d : Nat} {Post : Option Value → GH → Prop} {PX : String → GH → Prop} (hM : Tri D s0 l yX7_isQuiet cX7_isQuiet 3 ((some .boolean)) dX mX sX [.ref (A 0 0 0), .int a] (HP A σ) Post PX) (hP : ∀ r G', Post r G' → ∃ (σ1 : Sg) (v : Int32), r = some (.int v) ∧ G' = HP A σ1) (hX : ∀ E G', PX E G' → (E = "java/lang/IndexOutOfBoundsException") ∧ ∃ σ1 : Sg, G' = HP A σ1) (hd : dX < d) : TriH D s0 l yL_isQuiet cL_isQuiet 4 (some .int) [(0, 16, 19, 53)] d mX sX [.ref (A 0 0 0), .int a, .ref (A 30 0 0)] (HP A σ) (fun r G' => (∃ (σ1 : Sg) (v : Int32), Post (some (.int v)) (HP A σ1) ∧ r = some (.int 0) ∧ G' = HP A (sl σ1 (if v = 0 then 0 else 1))) ∨ (∃ σ1 : Sg, PX "java/lang/IndexOutOfBoundsException" (HP A σ1) ∧ r = some (.int 1) ∧ G' = HP A σ1)) noX := by
  refine TriH.ofV (own := RL) (mn := "isQuiet") (by decide +kernel) rfl rfl (Nat.le_of_ble_eq_true rfl) ?_
  refine V_aload_n (i := 2) dL_isQuiet_0 rfl rfl ?_
  refine V_iconst (v := 0) dL_isQuiet_1 (by decide) ?_
  refine V_aload_n (i := 0) dL_isQuiet_2 rfl rfl ?_
  refine V_iload_n (i := 1) dL_isQuiet_3 rfl rfl ?_
  refine V_call (d := d) cv_L_77 dL_isQuiet_4 hM (hp0 hA) rfl rfl rfl rfl (Nat.le_of_ble_eq_true rfl) ⟨Nat.le_refl _, Nat.le_refl _⟩ hd ⟨Nat.le_of_eq (Nat.zero_add _), Nat.le_of_eq (Nat.zero_add _)⟩ ?_ ?_
  · intro r G' h
    obtain ⟨σ1, v, rfl, rfl⟩ := hP r G' h
    refine V_if_eq (tgt := 14) dL_isQuiet_7 (by decide) (fun h7 => ?_) (fun h7 => ?_)
    · refine V_lconst (v := 0) dL_isQuiet_14 (by decide) ?_
      refine VA_30 dL_isQuiet_15 hA ?_
      refine V_goto (tgt := 22) dL_isQuiet_16 (by decide) ?_
      refine V_iconst (v := 0) dL_isQuiet_22 (by decide) ?_
      refine V_iret dL_isQuiet_23 rfl (Nat.le_of_eq (Nat.zero_add _)) (Nat.le_of_eq (Nat.zero_add _)) ?_
      exact Or.inl ⟨σ1, v, h, rfl, by first | rw [if_pos h7] | rw [if_neg h7]⟩
    · refine V_lconst (v := 1) dL_isQuiet_10 (by decide) ?_
      refine V_goto (tgt := 15) dL_isQuiet_11 (by decide) ?_
      refine VA_30 dL_isQuiet_15 hA ?_
      refine V_goto (tgt := 22) dL_isQuiet_16 (by decide) ?_
      refine V_iconst (v := 0) dL_isQuiet_22 (by decide) ?_
      refine V_iret dL_isQuiet_23 rfl (Nat.le_of_eq (Nat.zero_add _)) (Nat.le_of_eq (Nat.zero_add _)) ?_
      exact Or.inl ⟨σ1, v, h, rfl, by first | rw [if_pos h7] | rw [if_neg h7]⟩
  · intro E G' h
    obtain ⟨hE, σ1, rfl⟩ := hX E G' h
    rcases hE with rfl
    · refine VX_catch (pre := []) (x := (0, 16, 19, 53)) (suf := []) rfl (fun z hz => by cases hz) (by decide) (by decide) kl_53 kc_53 (fun q => ?_)
      refine V_astore_n (i := 3) dL_isQuiet_19 rfl (by decide) ?_
      refine V_iconst (v := 1) dL_isQuiet_20 (by decide) ?_
      refine V_iret dL_isQuiet_21 rfl (Nat.le_of_eq (Nat.zero_add _)) (Nat.le_of_eq (Nat.zero_add _)) ?_
      exact Or.inr ⟨σ1, h, rfl, rfl⟩

set_option maxHeartbeats 4000000 in
set_option maxRecDepth 100000 in
theorem t_L_ranked {D : va_G} {s0 : State} {l : Launch} {B : Nat} {A : AT} {σ : Sg} (hA : AOK B A) {a : Int32} {dX mX sX d : Nat} {Post : Option Value → GH → Prop} {PX : String → GH → Prop} (hM : Tri D s0 l yX7_ranked cX7_ranked 3 ((some .int)) dX mX sX [.ref (A 0 0 0), .int a] (HP A σ) Post PX) (hP : ∀ r G', Post r G' → ∃ (σ1 : Sg) (v : Int32), r = some (.int v) ∧ G' = HP A σ1) (hX : ∀ E G', PX E G' → (E = "java/util/NoSuchElementException") ∧ ∃ σ1 : Sg, G' = HP A σ1) (hd : dX < d) : TriH D s0 l yL_ranked cL_ranked 4 (some .int) [(0, 9, 12, 75)] d mX sX [.ref (A 0 0 0), .int a, .ref (A 30 0 0)] (HP A σ) (fun r G' => (∃ (σ1 : Sg) (v : Int32), Post (some (.int v)) (HP A σ1) ∧ r = some (.int 0) ∧ G' = HP A (sl σ1 v.toInt64)) ∨ (∃ σ1 : Sg, PX "java/util/NoSuchElementException" (HP A σ1) ∧ r = some (.int 1) ∧ G' = HP A σ1)) noX := by
  refine TriH.ofV (own := RL) (mn := "ranked") (by decide +kernel) rfl rfl (Nat.le_of_ble_eq_true rfl) ?_
  refine V_aload_n (i := 2) dL_ranked_0 rfl rfl ?_
  refine V_iconst (v := 0) dL_ranked_1 (by decide) ?_
  refine V_aload_n (i := 0) dL_ranked_2 rfl rfl ?_
  refine V_iload_n (i := 1) dL_ranked_3 rfl rfl ?_
  refine V_call (d := d) cv_L_81 dL_ranked_4 hM (hp0 hA) rfl rfl rfl rfl (Nat.le_of_ble_eq_true rfl) ⟨Nat.le_refl _, Nat.le_refl _⟩ hd ⟨Nat.le_of_eq (Nat.zero_add _), Nat.le_of_eq (Nat.zero_add _)⟩ ?_ ?_
  · intro r G' h
    obtain ⟨σ1, v, rfl, rfl⟩ := hP r G' h
    refine V_i2l dL_ranked_7 rfl ?_
    refine VA_30 dL_ranked_8 hA ?_
    refine V_goto (tgt := 15) dL_ranked_9 (by decide) ?_
    refine V_iconst (v := 0) dL_ranked_15 (by decide) ?_
    refine V_iret dL_ranked_16 rfl (Nat.le_of_eq (Nat.zero_add _)) (Nat.le_of_eq (Nat.zero_add _)) ?_
    exact Or.inl ⟨σ1, v, h, rfl, rfl⟩
  · intro E G' h
    obtain ⟨hE, σ1, rfl⟩ := hX E G' h
    rcases hE with rfl
    · refine VX_catch (pre := []) (x := (0, 9, 12, 75)) (suf := []) rfl (fun z hz => by cases hz) (by decide) (by decide) kl_75 kc_75 (fun q => ?_)
      refine V_astore_n (i := 3) dL_ranked_12 rfl (by decide) ?_
      refine V_iconst (v := 1) dL_ranked_13 (by decide) ?_
      refine V_iret dL_ranked_14 rfl (Nat.le_of_eq (Nat.zero_add _)) (Nat.le_of_eq (Nat.zero_add _)) ?_
      exact Or.inr ⟨σ1, h, rfl, rfl⟩

set_option maxHeartbeats 4000000 in
set_option maxRecDepth 100000 in
theorem t_L_append {D : va_G} {s0 : State} {l : Launch} {B : Nat} {A : AT} {σ : Sg} (hA : AOK B A) {a : Int32} {dX mX sX d : Nat} {Post : Option Value → GH → Prop} {PX : String → GH → Prop} (hM : Tri D s0 l yX7_append cX7_append 2 ((some .int)) dX mX sX [.ref (A 0 0 0), .int a] (HP A σ) Post PX) (hP : ∀ r G', Post r G' → ∃ (σ1 : Sg) (v : Int32), r = some (.int v) ∧ G' = HP A σ1) (hX : ∀ E G', PX E G' → (E = "java/lang/IllegalStateException") ∧ ∃ σ1 : Sg, G' = HP A σ1) (hd : dX < d) : TriH D s0 l yL_append cL_append 4 (some .int) [(0, 9, 12, 88)] d mX sX [.ref (A 0 0 0), .int a, .ref (A 30 0 0)] (HP A σ) (fun r G' => (∃ (σ1 : Sg) (v : Int32), Post (some (.int v)) (HP A σ1) ∧ r = some (.int 0) ∧ G' = HP A (sl σ1 v.toInt64)) ∨ (∃ σ1 : Sg, PX "java/lang/IllegalStateException" (HP A σ1) ∧ r = some (.int 1) ∧ G' = HP A σ1)) noX := by
  refine TriH.ofV (own := RL) (mn := "append") (by decide +kernel) rfl rfl (Nat.le_of_ble_eq_true rfl) ?_
  refine V_aload_n (i := 2) dL_append_0 rfl rfl ?_
  refine V_iconst (v := 0) dL_append_1 (by decide) ?_
  refine V_aload_n (i := 0) dL_append_2 rfl rfl ?_
  refine V_iload_n (i := 1) dL_append_3 rfl rfl ?_
  refine V_call (d := d) cv_L_84 dL_append_4 hM (hp0 hA) rfl rfl rfl rfl (Nat.le_of_ble_eq_true rfl) ⟨Nat.le_refl _, Nat.le_refl _⟩ hd ⟨Nat.le_of_eq (Nat.zero_add _), Nat.le_of_eq (Nat.zero_add _)⟩ ?_ ?_
  · intro r G' h
    obtain ⟨σ1, v, rfl, rfl⟩ := hP r G' h
    refine V_i2l dL_append_7 rfl ?_
    refine VA_30 dL_append_8 hA ?_
    refine V_goto (tgt := 15) dL_append_9 (by decide) ?_
    refine V_iconst (v := 0) dL_append_15 (by decide) ?_
    refine V_iret dL_append_16 rfl (Nat.le_of_eq (Nat.zero_add _)) (Nat.le_of_eq (Nat.zero_add _)) ?_
    exact Or.inl ⟨σ1, v, h, rfl, rfl⟩
  · intro E G' h
    obtain ⟨hE, σ1, rfl⟩ := hX E G' h
    rcases hE with rfl
    · refine VX_catch (pre := []) (x := (0, 9, 12, 88)) (suf := []) rfl (fun z hz => by cases hz) (by decide) (by decide) kl_88 kc_88 (fun q => ?_)
      refine V_astore_n (i := 3) dL_append_12 rfl (by decide) ?_
      refine V_iconst (v := 1) dL_append_13 (by decide) ?_
      refine V_iret dL_append_14 rfl (Nat.le_of_eq (Nat.zero_add _)) (Nat.le_of_eq (Nat.zero_add _)) ?_
      exact Or.inr ⟨σ1, h, rfl, rfl⟩

set_option maxHeartbeats 4000000 in
set_option maxRecDepth 100000 in
theorem t_L_commands {D : va_G} {s0 : State} {l : Launch} {B : Nat} {A : AT} {σ : Sg} (hA : AOK B A) {dX mX sX d : Nat} {Post : Option Value → GH → Prop} {PX : String → GH → Prop} (hM : Tri D s0 l yX7_commands cX7_commands 2 ((some .int)) dX mX sX [.ref (A 0 0 0)] (HP A σ) Post PX) (hP : ∀ r G', Post r G' → ∃ (σ1 : Sg) (v : Int32), r = some (.int v) ∧ G' = HP A σ1) (hX : ∀ E G', PX E G' → (E = "java/lang/IllegalArgumentException" ∨ E = "java/lang/UnsupportedOperationException") ∧ ∃ σ1 : Sg, G' = HP A σ1) (hd : dX < d) : TriH D s0 l yL_commands cL_commands 3 (some .int) [(0, 8, 11, 55), (0, 8, 14, 13)] d mX sX [.ref (A 0 0 0), .ref (A 30 0 0)] (HP A σ) (fun r G' => (∃ (σ1 : Sg) (v : Int32), Post (some (.int v)) (HP A σ1) ∧ r = some (.int 0) ∧ G' = HP A (sl σ1 v.toInt64)) ∨ (∃ σ1 : Sg, PX "java/lang/IllegalArgumentException" (HP A σ1) ∧ r = some (.int 1) ∧ G' = HP A σ1) ∨ (∃ σ1 : Sg, PX "java/lang/UnsupportedOperationException" (HP A σ1) ∧ r = some (.int 2) ∧ G' = HP A σ1)) noX := by
  refine TriH.ofV (own := RL) (mn := "commands") (by decide +kernel) rfl rfl (Nat.le_of_ble_eq_true rfl) ?_
  refine V_aload_n (i := 1) dL_commands_0 rfl rfl ?_
  refine V_iconst (v := 0) dL_commands_1 (by decide) ?_
  refine V_aload_n (i := 0) dL_commands_2 rfl rfl ?_
  refine V_call (d := d) cv_L_90 dL_commands_3 hM (hp0 hA) rfl rfl rfl rfl (Nat.le_of_ble_eq_true rfl) ⟨Nat.le_refl _, Nat.le_refl _⟩ hd ⟨Nat.le_of_eq (Nat.zero_add _), Nat.le_of_eq (Nat.zero_add _)⟩ ?_ ?_
  · intro r G' h
    obtain ⟨σ1, v, rfl, rfl⟩ := hP r G' h
    refine V_i2l dL_commands_6 rfl ?_
    refine VA_30 dL_commands_7 hA ?_
    refine V_goto (tgt := 17) dL_commands_8 (by decide) ?_
    refine V_iconst (v := 0) dL_commands_17 (by decide) ?_
    refine V_iret dL_commands_18 rfl (Nat.le_of_eq (Nat.zero_add _)) (Nat.le_of_eq (Nat.zero_add _)) ?_
    exact Or.inl ⟨σ1, v, h, rfl, rfl⟩
  · intro E G' h
    obtain ⟨hE, σ1, rfl⟩ := hX E G' h
    rcases hE with rfl | rfl
    · refine VX_catch (pre := []) (x := (0, 8, 11, 55)) (suf := [(0, 8, 14, 13)]) rfl (fun z hz => by cases hz) (by decide) (by decide) kl_55 kc_55 (fun q => ?_)
      refine V_astore_n (i := 2) dL_commands_11 rfl (by decide) ?_
      refine V_iconst (v := 1) dL_commands_12 (by decide) ?_
      refine V_iret dL_commands_13 rfl (Nat.le_of_eq (Nat.zero_add _)) (Nat.le_of_eq (Nat.zero_add _)) ?_
      exact Or.inr (Or.inl ⟨σ1, h, rfl, rfl⟩)
    · refine VX_catch (pre := [(0, 8, 11, 55)]) (x := (0, 8, 14, 13)) (suf := []) rfl (fun z hz => by cases hz with | head => exact ⟨"java/lang/IllegalArgumentException", 294, by decide, kl_55, by decide +kernel⟩ | tail _ h9 => cases h9) (by decide) (by decide) kl_13 kc_13 (fun q => ?_)
      refine V_astore_n (i := 2) dL_commands_14 rfl (by decide) ?_
      refine V_iconst (v := 2) dL_commands_15 (by decide) ?_
      refine V_iret dL_commands_16 rfl (Nat.le_of_eq (Nat.zero_add _)) (Nat.le_of_eq (Nat.zero_add _)) ?_
      exact Or.inr (Or.inr ⟨σ1, h, rfl, rfl⟩)

set_option maxHeartbeats 4000000 in
set_option maxRecDepth 100000 in
theorem t_L_reason {D : va_G} {s0 : State} {l : Launch} {B : Nat} {A : AT} {σ : Sg} (hA : AOK B A) {a : Int32} {dX mX sX d : Nat} {Post : Option Value → GH → Prop} {PX : String → GH → Prop} (hM : Tri D s0 l yX7_reason cX7_reason 2 ((some .int)) dX mX sX [.ref (A 0 0 0), .int a] (HP A σ) Post PX) (hP : ∀ r G', Post r G' → ∃ (σ1 : Sg) (v : Int32), r = some (.int v) ∧ G' = HP A σ1) (hX : ∀ E G', PX E G' → (E = "java/lang/IllegalArgumentException" ∨ E = "java/util/NoSuchElementException") ∧ ∃ σ1 : Sg, G' = HP A σ1) (hd : dX < d) : TriH D s0 l yL_reason cL_reason 4 (some .int) [(0, 9, 12, 55), (0, 9, 15, 75)] d mX sX [.ref (A 0 0 0), .int a, .ref (A 30 0 0)] (HP A σ) (fun r G' => (∃ (σ1 : Sg) (v : Int32), Post (some (.int v)) (HP A σ1) ∧ r = some (.int 0) ∧ G' = HP A (sl σ1 v.toInt64)) ∨ (∃ σ1 : Sg, PX "java/lang/IllegalArgumentException" (HP A σ1) ∧ r = some (.int 1) ∧ G' = HP A σ1) ∨ (∃ σ1 : Sg, PX "java/util/NoSuchElementException" (HP A σ1) ∧ r = some (.int 2) ∧ G' = HP A σ1)) noX := by
  refine TriH.ofV (own := RL) (mn := "reason") (by decide +kernel) rfl rfl (Nat.le_of_ble_eq_true rfl) ?_
  refine V_aload_n (i := 2) dL_reason_0 rfl rfl ?_
  refine V_iconst (v := 0) dL_reason_1 (by decide) ?_
  refine V_aload_n (i := 0) dL_reason_2 rfl rfl ?_
  refine V_iload_n (i := 1) dL_reason_3 rfl rfl ?_
  refine V_call (d := d) cv_L_93 dL_reason_4 hM (hp0 hA) rfl rfl rfl rfl (Nat.le_of_ble_eq_true rfl) ⟨Nat.le_refl _, Nat.le_refl _⟩ hd ⟨Nat.le_of_eq (Nat.zero_add _), Nat.le_of_eq (Nat.zero_add _)⟩ ?_ ?_
  · intro r G' h
    obtain ⟨σ1, v, rfl, rfl⟩ := hP r G' h
    refine V_i2l dL_reason_7 rfl ?_
    refine VA_30 dL_reason_8 hA ?_
    refine V_goto (tgt := 18) dL_reason_9 (by decide) ?_
    refine V_iconst (v := 0) dL_reason_18 (by decide) ?_
    refine V_iret dL_reason_19 rfl (Nat.le_of_eq (Nat.zero_add _)) (Nat.le_of_eq (Nat.zero_add _)) ?_
    exact Or.inl ⟨σ1, v, h, rfl, rfl⟩
  · intro E G' h
    obtain ⟨hE, σ1, rfl⟩ := hX E G' h
    rcases hE with rfl | rfl
    · refine VX_catch (pre := []) (x := (0, 9, 12, 55)) (suf := [(0, 9, 15, 75)]) rfl (fun z hz => by cases hz) (by decide) (by decide) kl_55 kc_55 (fun q => ?_)
      refine V_astore_n (i := 3) dL_reason_12 rfl (by decide) ?_
      refine V_iconst (v := 1) dL_reason_13 (by decide) ?_
      refine V_iret dL_reason_14 rfl (Nat.le_of_eq (Nat.zero_add _)) (Nat.le_of_eq (Nat.zero_add _)) ?_
      exact Or.inr (Or.inl ⟨σ1, h, rfl, rfl⟩)
    · refine VX_catch (pre := [(0, 9, 12, 55)]) (x := (0, 9, 15, 75)) (suf := []) rfl (fun z hz => by cases hz with | head => exact ⟨"java/lang/IllegalArgumentException", 297, by decide, kl_55, by decide +kernel⟩ | tail _ h9 => cases h9) (by decide) (by decide) kl_75 kc_75 (fun q => ?_)
      refine V_astore_n (i := 3) dL_reason_15 rfl (by decide) ?_
      refine V_iconst (v := 2) dL_reason_16 (by decide) ?_
      refine V_iret dL_reason_17 rfl (Nat.le_of_eq (Nat.zero_add _)) (Nat.le_of_eq (Nat.zero_add _)) ?_
      exact Or.inr (Or.inr ⟨σ1, h, rfl, rfl⟩)

set_option maxHeartbeats 4000000 in
set_option maxRecDepth 100000 in
theorem t_L_line {D : va_G} {s0 : State} {l : Launch} {B : Nat} {A : AT} {σ : Sg} (hA : AOK B A) {a : Int32} {dX mX sX d : Nat} {Post : Option Value → GH → Prop} {PX : String → GH → Prop} (hM : Tri D s0 l yX7_line cX7_line 4 ((some .int)) dX mX sX [.ref (A 0 0 0), .int a] (HP A σ) Post PX) (hP : ∀ r G', Post r G' → ∃ (σ1 : Sg) (v : Int32), r = some (.int v) ∧ G' = HP A σ1) (hX : ∀ E G', PX E G' → (E = "java/lang/IndexOutOfBoundsException") ∧ ∃ σ1 : Sg, G' = HP A σ1) (hd : dX < d) : TriH D s0 l yL_line cL_line 4 (some .int) [(0, 9, 12, 53)] d mX sX [.ref (A 0 0 0), .int a, .ref (A 30 0 0)] (HP A σ) (fun r G' => (∃ (σ1 : Sg) (v : Int32), Post (some (.int v)) (HP A σ1) ∧ r = some (.int 0) ∧ G' = HP A (sl σ1 v.toInt64)) ∨ (∃ σ1 : Sg, PX "java/lang/IndexOutOfBoundsException" (HP A σ1) ∧ r = some (.int 1) ∧ G' = HP A σ1)) noX := by
  refine TriH.ofV (own := RL) (mn := "line") (by decide +kernel) rfl rfl (Nat.le_of_ble_eq_true rfl) ?_
  refine V_aload_n (i := 2) dL_line_0 rfl rfl ?_
  refine V_iconst (v := 0) dL_line_1 (by decide) ?_
  refine V_aload_n (i := 0) dL_line_2 rfl rfl ?_
  refine V_iload_n (i := 1) dL_line_3 rfl rfl ?_
  refine V_call (d := d) cv_L_96 dL_line_4 hM (hp0 hA) rfl rfl rfl rfl (Nat.le_of_ble_eq_true rfl) ⟨Nat.le_refl _, Nat.le_refl _⟩ hd ⟨Nat.le_of_eq (Nat.zero_add _), Nat.le_of_eq (Nat.zero_add _)⟩ ?_ ?_
  · intro r G' h
    obtain ⟨σ1, v, rfl, rfl⟩ := hP r G' h
    refine V_i2l dL_line_7 rfl ?_
    refine VA_30 dL_line_8 hA ?_
    refine V_goto (tgt := 15) dL_line_9 (by decide) ?_
    refine V_iconst (v := 0) dL_line_15 (by decide) ?_
    refine V_iret dL_line_16 rfl (Nat.le_of_eq (Nat.zero_add _)) (Nat.le_of_eq (Nat.zero_add _)) ?_
    exact Or.inl ⟨σ1, v, h, rfl, rfl⟩
  · intro E G' h
    obtain ⟨hE, σ1, rfl⟩ := hX E G' h
    rcases hE with rfl
    · refine VX_catch (pre := []) (x := (0, 9, 12, 53)) (suf := []) rfl (fun z hz => by cases hz) (by decide) (by decide) kl_53 kc_53 (fun q => ?_)
      refine V_astore_n (i := 3) dL_line_12 rfl (by decide) ?_
      refine V_iconst (v := 1) dL_line_13 (by decide) ?_
      refine V_iret dL_line_14 rfl (Nat.le_of_eq (Nat.zero_add _)) (Nat.le_of_eq (Nat.zero_add _)) ?_
      exact Or.inr ⟨σ1, h, rfl, rfl⟩

set_option maxHeartbeats 4000000 in
set_option maxRecDepth 100000 in
theorem t_L_character {D : va_G} {s0 : State} {l : Launch} {B : Nat} {A : AT} {σ : Sg} (hA : AOK B A) {a : Int32} {dX mX sX d : Nat} {Post : Option Value → GH → Prop} {PX : String → GH → Prop} (hM : Tri D s0 l yX7_character cX7_character 2 ((some .char)) dX mX sX [.ref (A 0 0 0), .int a] (HP A σ) Post PX) (hP : ∀ r G', Post r G' → ∃ (σ1 : Sg) (v : Int32), r = some (.int v) ∧ G' = HP A σ1) (hX : ∀ E G', PX E G' → (E = "java/lang/IndexOutOfBoundsException") ∧ ∃ σ1 : Sg, G' = HP A σ1) (hd : dX < d) : TriH D s0 l yL_character cL_character 4 (some .int) [(0, 9, 12, 53)] d mX sX [.ref (A 0 0 0), .int a, .ref (A 30 0 0)] (HP A σ) (fun r G' => (∃ (σ1 : Sg) (v : Int32), Post (some (.int v)) (HP A σ1) ∧ r = some (.int 0) ∧ G' = HP A (sl σ1 v.toInt64)) ∨ (∃ σ1 : Sg, PX "java/lang/IndexOutOfBoundsException" (HP A σ1) ∧ r = some (.int 1) ∧ G' = HP A σ1)) noX := by
  refine TriH.ofV (own := RL) (mn := "character") (by decide +kernel) rfl rfl (Nat.le_of_ble_eq_true rfl) ?_
  refine V_aload_n (i := 2) dL_character_0 rfl rfl ?_
  refine V_iconst (v := 0) dL_character_1 (by decide) ?_
  refine V_aload_n (i := 0) dL_character_2 rfl rfl ?_
  refine V_iload_n (i := 1) dL_character_3 rfl rfl ?_
  refine V_call (d := d) cv_L_99 dL_character_4 hM (hp0 hA) rfl rfl rfl rfl (Nat.le_of_ble_eq_true rfl) ⟨Nat.le_refl _, Nat.le_refl _⟩ hd ⟨Nat.le_of_eq (Nat.zero_add _), Nat.le_of_eq (Nat.zero_add _)⟩ ?_ ?_
  · intro r G' h
    obtain ⟨σ1, v, rfl, rfl⟩ := hP r G' h
    refine V_i2l dL_character_7 rfl ?_
    refine VA_30 dL_character_8 hA ?_
    refine V_goto (tgt := 15) dL_character_9 (by decide) ?_
    refine V_iconst (v := 0) dL_character_15 (by decide) ?_
    refine V_iret dL_character_16 rfl (Nat.le_of_eq (Nat.zero_add _)) (Nat.le_of_eq (Nat.zero_add _)) ?_
    exact Or.inl ⟨σ1, v, h, rfl, rfl⟩
  · intro E G' h
    obtain ⟨hE, σ1, rfl⟩ := hX E G' h
    rcases hE with rfl
    · refine VX_catch (pre := []) (x := (0, 9, 12, 53)) (suf := []) rfl (fun z hz => by cases hz) (by decide) (by decide) kl_53 kc_53 (fun q => ?_)
      refine V_astore_n (i := 3) dL_character_12 rfl (by decide) ?_
      refine V_iconst (v := 1) dL_character_13 (by decide) ?_
      refine V_iret dL_character_14 rfl (Nat.le_of_eq (Nat.zero_add _)) (Nat.le_of_eq (Nat.zero_add _)) ?_
      exact Or.inr ⟨σ1, h, rfl, rfl⟩

set_option maxHeartbeats 4000000 in
set_option maxRecDepth 100000 in
theorem t_L_meanArrears {D : va_G} {s0 : State} {l : Launch} {B : Nat} {A : AT} {σ : Sg} (hA : AOK B A) {dX mX sX d : Nat} {Post : Option Value → GH → Prop} {PX : String → GH → Prop} (hM : Tri D s0 l yX7_meanArrears cX7_meanArrears 1 ((some .float)) dX mX sX [.ref (A 0 0 0)] (HP A σ) Post PX) (hP : ∀ r G', Post r G' → ∃ (σ1 : Sg) (v : UInt32), r = some (.float v) ∧ vf_n64 (FP.f2d v) ∧ G' = HP A σ1) (hX : ∀ E G', PX E G' → (E = "java/lang/ArithmeticException") ∧ ∃ σ1 : Sg, G' = HP A σ1) (hd : dX < d) : TriH D s0 l yL_meanArrears cL_meanArrears 3 (some .int) [(0, 8, 11, 107)] d mX sX [.ref (A 0 0 0), .ref (A 31 0 0)] (HP A σ) (fun r G' => (∃ (σ1 : Sg) (v : UInt32), Post (some (.float v)) (HP A σ1) ∧ r = some (.int 0) ∧ G' = HP A (sd σ1 (FP.f2d v))) ∨ (∃ σ1 : Sg, PX "java/lang/ArithmeticException" (HP A σ1) ∧ r = some (.int 1) ∧ G' = HP A σ1)) noX := by
  refine TriH.ofV (own := RL) (mn := "meanArrears") (by decide +kernel) rfl rfl (Nat.le_of_ble_eq_true rfl) ?_
  refine V_aload_n (i := 1) dL_meanArrears_0 rfl rfl ?_
  refine V_iconst (v := 0) dL_meanArrears_1 (by decide) ?_
  refine V_aload_n (i := 0) dL_meanArrears_2 rfl rfl ?_
  refine V_call (d := d) cv_L_103 dL_meanArrears_3 hM (hp0 hA) rfl rfl rfl rfl (Nat.le_of_ble_eq_true rfl) ⟨Nat.le_refl _, Nat.le_refl _⟩ hd ⟨Nat.le_of_eq (Nat.zero_add _), Nat.le_of_eq (Nat.zero_add _)⟩ ?_ ?_
  · intro r G' h
    obtain ⟨σ1, v, rfl, hnn, rfl⟩ := hP r G' h
    refine V_f2d dL_meanArrears_6 hnn ?_
    refine VA_31 dL_meanArrears_7 hA ?_
    refine V_goto (tgt := 14) dL_meanArrears_8 (by decide) ?_
    refine V_iconst (v := 0) dL_meanArrears_14 (by decide) ?_
    refine V_iret dL_meanArrears_15 rfl (Nat.le_of_eq (Nat.zero_add _)) (Nat.le_of_eq (Nat.zero_add _)) ?_
    exact Or.inl ⟨σ1, v, h, rfl, rfl⟩
  · intro E G' h
    obtain ⟨hE, σ1, rfl⟩ := hX E G' h
    rcases hE with rfl
    · refine VX_catch (pre := []) (x := (0, 8, 11, 107)) (suf := []) rfl (fun z hz => by cases hz) (by decide) (by decide) kl_107 kc_107 (fun q => ?_)
      refine V_astore_n (i := 2) dL_meanArrears_11 rfl (by decide) ?_
      refine V_iconst (v := 1) dL_meanArrears_12 (by decide) ?_
      refine V_iret dL_meanArrears_13 rfl (Nat.le_of_eq (Nat.zero_add _)) (Nat.le_of_eq (Nat.zero_add _)) ?_
      exact Or.inr ⟨σ1, h, rfl, rfl⟩

set_option maxHeartbeats 4000000 in
set_option maxRecDepth 100000 in
theorem t_L_paidShare {D : va_G} {s0 : State} {l : Launch} {B : Nat} {A : AT} {σ : Sg} (hA : AOK B A) {dX mX sX d : Nat} {Post : Option Value → GH → Prop} {PX : String → GH → Prop} (hM : Tri D s0 l yX7_paidShare cX7_paidShare 2 ((some .double)) dX mX sX [.ref (A 0 0 0)] (HP A σ) Post PX) (hP : ∀ r G', Post r G' → ∃ (σ1 : Sg) (v : UInt64), r = some (.double v) ∧ G' = HP A σ1) (hX : ∀ E G', PX E G' → (E = "java/lang/ArithmeticException") ∧ ∃ σ1 : Sg, G' = HP A σ1) (hd : dX < d) : TriH D s0 l yL_paidShare cL_paidShare 3 (some .int) [(0, 7, 10, 107)] d mX sX [.ref (A 0 0 0), .ref (A 31 0 0)] (HP A σ) (fun r G' => (∃ (σ1 : Sg) (v : UInt64), Post (some (.double v)) (HP A σ1) ∧ r = some (.int 0) ∧ G' = HP A (sd σ1 v)) ∨ (∃ σ1 : Sg, PX "java/lang/ArithmeticException" (HP A σ1) ∧ r = some (.int 1) ∧ G' = HP A σ1)) noX := by
  refine TriH.ofV (own := RL) (mn := "paidShare") (by decide +kernel) rfl rfl (Nat.le_of_ble_eq_true rfl) ?_
  refine V_aload_n (i := 1) dL_paidShare_0 rfl rfl ?_
  refine V_iconst (v := 0) dL_paidShare_1 (by decide) ?_
  refine V_aload_n (i := 0) dL_paidShare_2 rfl rfl ?_
  refine V_call (d := d) cv_L_109 dL_paidShare_3 hM (hp0 hA) rfl rfl rfl rfl (Nat.le_of_ble_eq_true rfl) ⟨Nat.le_refl _, Nat.le_refl _⟩ hd ⟨Nat.le_of_eq (Nat.zero_add _), Nat.le_of_eq (Nat.zero_add _)⟩ ?_ ?_
  · intro r G' h
    obtain ⟨σ1, v, rfl, rfl⟩ := hP r G' h
    refine VA_31 dL_paidShare_6 hA ?_
    refine V_goto (tgt := 13) dL_paidShare_7 (by decide) ?_
    refine V_iconst (v := 0) dL_paidShare_13 (by decide) ?_
    refine V_iret dL_paidShare_14 rfl (Nat.le_of_eq (Nat.zero_add _)) (Nat.le_of_eq (Nat.zero_add _)) ?_
    exact Or.inl ⟨σ1, v, h, rfl, rfl⟩
  · intro E G' h
    obtain ⟨hE, σ1, rfl⟩ := hX E G' h
    rcases hE with rfl
    · refine VX_catch (pre := []) (x := (0, 7, 10, 107)) (suf := []) rfl (fun z hz => by cases hz) (by decide) (by decide) kl_107 kc_107 (fun q => ?_)
      refine V_astore_n (i := 2) dL_paidShare_10 rfl (by decide) ?_
      refine V_iconst (v := 1) dL_paidShare_11 (by decide) ?_
      refine V_iret dL_paidShare_12 rfl (Nat.le_of_eq (Nat.zero_add _)) (Nat.le_of_eq (Nat.zero_add _)) ?_
      exact Or.inr ⟨σ1, h, rfl, rfl⟩

set_option maxHeartbeats 4000000 in
set_option maxRecDepth 100000 in
theorem t_L_account {D : va_G} {s0 : State} {l : Launch} {B : Nat} {A : AT} {σ : Sg} (hA : AOK B A) {a : Int32} {dX mX sX d : Nat} {Post : Option Value → GH → Prop} {PX : String → GH → Prop} (hM : Tri D s0 l yX7_account cX7_account 2 ((some .int)) dX mX sX [.ref (A 0 0 0), .int a] (HP A σ) Post PX) (hP : ∀ r G', Post r G' → ∃ (σ1 : Sg) (v : Int32), r = some (.int v) ∧ G' = HP A σ1) (hX : ∀ E G', PX E G' → (E = "java/lang/IllegalArgumentException") ∧ ∃ σ1 : Sg, G' = HP A σ1) (hd : dX < d) : TriH D s0 l yL_account cL_account 4 (some .int) [(0, 9, 12, 55)] d mX sX [.ref (A 0 0 0), .int a, .ref (A 30 0 0)] (HP A σ) (fun r G' => (∃ (σ1 : Sg) (v : Int32), Post (some (.int v)) (HP A σ1) ∧ r = some (.int 0) ∧ G' = HP A (sl σ1 v.toInt64)) ∨ (∃ σ1 : Sg, PX "java/lang/IllegalArgumentException" (HP A σ1) ∧ r = some (.int 1) ∧ G' = HP A σ1)) noX := by
  refine TriH.ofV (own := RL) (mn := "account") (by decide +kernel) rfl rfl (Nat.le_of_ble_eq_true rfl) ?_
  refine V_aload_n (i := 2) dL_account_0 rfl rfl ?_
  refine V_iconst (v := 0) dL_account_1 (by decide) ?_
  refine V_aload_n (i := 0) dL_account_2 rfl rfl ?_
  refine V_iload_n (i := 1) dL_account_3 rfl rfl ?_
  refine V_call (d := d) cv_L_113 dL_account_4 hM (hp0 hA) rfl rfl rfl rfl (Nat.le_of_ble_eq_true rfl) ⟨Nat.le_refl _, Nat.le_refl _⟩ hd ⟨Nat.le_of_eq (Nat.zero_add _), Nat.le_of_eq (Nat.zero_add _)⟩ ?_ ?_
  · intro r G' h
    obtain ⟨σ1, v, rfl, rfl⟩ := hP r G' h
    refine V_i2l dL_account_7 rfl ?_
    refine VA_30 dL_account_8 hA ?_
    refine V_goto (tgt := 15) dL_account_9 (by decide) ?_
    refine V_iconst (v := 0) dL_account_15 (by decide) ?_
    refine V_iret dL_account_16 rfl (Nat.le_of_eq (Nat.zero_add _)) (Nat.le_of_eq (Nat.zero_add _)) ?_
    exact Or.inl ⟨σ1, v, h, rfl, rfl⟩
  · intro E G' h
    obtain ⟨hE, σ1, rfl⟩ := hX E G' h
    rcases hE with rfl
    · refine VX_catch (pre := []) (x := (0, 9, 12, 55)) (suf := []) rfl (fun z hz => by cases hz) (by decide) (by decide) kl_55 kc_55 (fun q => ?_)
      refine V_astore_n (i := 3) dL_account_12 rfl (by decide) ?_
      refine V_iconst (v := 1) dL_account_13 (by decide) ?_
      refine V_iret dL_account_14 rfl (Nat.le_of_eq (Nat.zero_add _)) (Nat.le_of_eq (Nat.zero_add _)) ?_
      exact Or.inr ⟨σ1, h, rfl, rfl⟩

set_option maxHeartbeats 4000000 in
set_option maxRecDepth 100000 in
theorem t_L_undo {D : va_G} {s0 : State} {l : Launch} {B : Nat} {A : AT} {σ : Sg} (hA : AOK B A) {dX mX sX d : Nat} {Post : Option Value → GH → Prop} {PX : String → GH → Prop} (hM : Tri D s0 l yX7_undo cX7_undo 1 ((some .int)) dX mX sX [.ref (A 0 0 0)] (HP A σ) Post PX) (hP : ∀ r G', Post r G' → ∃ (σ1 : Sg) (v : Int32), r = some (.int v) ∧ G' = HP A σ1) (hX : ∀ E G', PX E G' → (E = "java/lang/IllegalStateException") ∧ ∃ σ1 : Sg, G' = HP A σ1) (hd : dX < d) : TriH D s0 l yL_undo cL_undo 3 (some .int) [(0, 8, 11, 88)] d mX sX [.ref (A 0 0 0), .ref (A 30 0 0)] (HP A σ) (fun r G' => (∃ (σ1 : Sg) (v : Int32), Post (some (.int v)) (HP A σ1) ∧ r = some (.int 0) ∧ G' = HP A (sl σ1 v.toInt64)) ∨ (∃ σ1 : Sg, PX "java/lang/IllegalStateException" (HP A σ1) ∧ r = some (.int 1) ∧ G' = HP A σ1)) noX := by
  refine TriH.ofV (own := RL) (mn := "undo") (by decide +kernel) rfl rfl (Nat.le_of_ble_eq_true rfl) ?_
  refine V_aload_n (i := 1) dL_undo_0 rfl rfl ?_
  refine V_iconst (v := 0) dL_undo_1 (by decide) ?_
  refine V_aload_n (i := 0) dL_undo_2 rfl rfl ?_
  refine V_call (d := d) cv_L_116 dL_undo_3 hM (hp0 hA) rfl rfl rfl rfl (Nat.le_of_ble_eq_true rfl) ⟨Nat.le_refl _, Nat.le_refl _⟩ hd ⟨Nat.le_of_eq (Nat.zero_add _), Nat.le_of_eq (Nat.zero_add _)⟩ ?_ ?_
  · intro r G' h
    obtain ⟨σ1, v, rfl, rfl⟩ := hP r G' h
    refine V_i2l dL_undo_6 rfl ?_
    refine VA_30 dL_undo_7 hA ?_
    refine V_goto (tgt := 14) dL_undo_8 (by decide) ?_
    refine V_iconst (v := 0) dL_undo_14 (by decide) ?_
    refine V_iret dL_undo_15 rfl (Nat.le_of_eq (Nat.zero_add _)) (Nat.le_of_eq (Nat.zero_add _)) ?_
    exact Or.inl ⟨σ1, v, h, rfl, rfl⟩
  · intro E G' h
    obtain ⟨hE, σ1, rfl⟩ := hX E G' h
    rcases hE with rfl
    · refine VX_catch (pre := []) (x := (0, 8, 11, 88)) (suf := []) rfl (fun z hz => by cases hz) (by decide) (by decide) kl_88 kc_88 (fun q => ?_)
      refine V_astore_n (i := 2) dL_undo_11 rfl (by decide) ?_
      refine V_iconst (v := 1) dL_undo_12 (by decide) ?_
      refine V_iret dL_undo_13 rfl (Nat.le_of_eq (Nat.zero_add _)) (Nat.le_of_eq (Nat.zero_add _)) ?_
      exact Or.inr ⟨σ1, h, rfl, rfl⟩

set_option maxHeartbeats 4000000 in
set_option maxRecDepth 100000 in
theorem t_L_restore {D : va_G} {s0 : State} {l : Launch} {B : Nat} {A : AT} {σ : Sg} (hA : AOK B A) {dX mX sX d : Nat} {Post : Option Value → GH → Prop} {PX : String → GH → Prop} (hM : Tri D s0 l yX7_restore cX7_restore 1 ((some .int)) dX mX sX [.ref (A 0 0 0)] (HP A σ) Post PX) (hP : ∀ r G', Post r G' → ∃ (σ1 : Sg) (v : Int32), r = some (.int v) ∧ G' = HP A σ1) (hX : ∀ E G', PX E G' → (E = "java/lang/IllegalStateException") ∧ ∃ σ1 : Sg, G' = HP A σ1) (hd : dX < d) : TriH D s0 l yL_restore cL_restore 3 (some .int) [(0, 8, 11, 88)] d mX sX [.ref (A 0 0 0), .ref (A 30 0 0)] (HP A σ) (fun r G' => (∃ (σ1 : Sg) (v : Int32), Post (some (.int v)) (HP A σ1) ∧ r = some (.int 0) ∧ G' = HP A (sl σ1 v.toInt64)) ∨ (∃ σ1 : Sg, PX "java/lang/IllegalStateException" (HP A σ1) ∧ r = some (.int 1) ∧ G' = HP A σ1)) noX := by
  refine TriH.ofV (own := RL) (mn := "restore") (by decide +kernel) rfl rfl (Nat.le_of_ble_eq_true rfl) ?_
  refine V_aload_n (i := 1) dL_restore_0 rfl rfl ?_
  refine V_iconst (v := 0) dL_restore_1 (by decide) ?_
  refine V_aload_n (i := 0) dL_restore_2 rfl rfl ?_
  refine V_call (d := d) cv_L_119 dL_restore_3 hM (hp0 hA) rfl rfl rfl rfl (Nat.le_of_ble_eq_true rfl) ⟨Nat.le_refl _, Nat.le_refl _⟩ hd ⟨Nat.le_of_eq (Nat.zero_add _), Nat.le_of_eq (Nat.zero_add _)⟩ ?_ ?_
  · intro r G' h
    obtain ⟨σ1, v, rfl, rfl⟩ := hP r G' h
    refine V_i2l dL_restore_6 rfl ?_
    refine VA_30 dL_restore_7 hA ?_
    refine V_goto (tgt := 14) dL_restore_8 (by decide) ?_
    refine V_iconst (v := 0) dL_restore_14 (by decide) ?_
    refine V_iret dL_restore_15 rfl (Nat.le_of_eq (Nat.zero_add _)) (Nat.le_of_eq (Nat.zero_add _)) ?_
    exact Or.inl ⟨σ1, v, h, rfl, rfl⟩
  · intro E G' h
    obtain ⟨hE, σ1, rfl⟩ := hX E G' h
    rcases hE with rfl
    · refine VX_catch (pre := []) (x := (0, 8, 11, 88)) (suf := []) rfl (fun z hz => by cases hz) (by decide) (by decide) kl_88 kc_88 (fun q => ?_)
      refine V_astore_n (i := 2) dL_restore_11 rfl (by decide) ?_
      refine V_iconst (v := 1) dL_restore_12 (by decide) ?_
      refine V_iret dL_restore_13 rfl (Nat.le_of_eq (Nat.zero_add _)) (Nat.le_of_eq (Nat.zero_add _)) ?_
      exact Or.inr ⟨σ1, h, rfl, rfl⟩

