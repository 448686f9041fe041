/-! rows for the StringBuilder: methods of the class above, private ones too; bytes stored and copied; fewer cells are known -/
section V37
variable {D : va_G} {s0 : State} {own mn : String} {cc : ByteArray} {nL : Nat} {ret : Option FieldType} {hh : List (Nat × Nat × Nat × Nat)} {l : Launch} {R : Room} {Z : ZT} {pc : Nat} {lo : List (Nat × Value)} {st : List Value} {G : GH} {cells slots : Nat}
theorem V.sub {G' : GH} (h : ∀ a c, G' a = some c → G a = some c) (k : V D s0 own mn cc nL ret hh l R Z pc lo st G' cells slots) : V D s0 own mn cc nL ret hh l R Z pc lo st G cells slots := fun p e s m args below meth c H locs ls C hS hE hl => k p e s m args below meth c H locs ls C hS (fun a x hx => hE a x (h a x hx)) hl
theorem sel_priv {args : Array Value} {s : State} {C : String} {cC : ClassId} {y : MethodName} (h1 : (Cond.sameMethod y.cls y.cls y.name y.desc).before args s = true) (h2 : (Cond.privateMethod y).before args s = true) (hC : s.vm.findClass C = some cC) : (Cond.selects C y y).before args s = true := by
  have hs : ∃ c r, s.vm.findClass y.cls = some c ∧ s.methodFound? y.cls y.name y.desc = some r := by
    have g := h1
    simp only [Cond.before, Cond.holds, Cond.value] at g
    cases ha : s.vm.findClass y.cls with
    | none => rw [ha] at g; simp at g
    | some c =>
      cases hb : s.methodFound? y.cls y.name y.desc with
      | none => rw [ha, hb] at g; simp at g
      | some r => exact ⟨c, r, rfl, rfl⟩
  obtain ⟨c, r, ha, hb⟩ := hs
  obtain ⟨hd, k, hk, hki⟩ := Cond.sameMethod_spec ha hb h1
  have hd2 : s.methodNamed? y = some r := hd
  have hmc : r.cls = c := by
    have g := hd2
    unfold State.methodNamed? at g
    rw [ha] at g
    simp only [Option.bind_eq_bind, Option.bind_some, Option.bind_eq_some_iff] at g
    obtain ⟨k9, hk9, i9, hi9, e9⟩ := g
    cases e9
    rfl
  cases hm : s.vm.method? r with
  | none =>
    exfalso
    have g := h2
    simp [Cond.before, Cond.holds, Cond.value, hd2, hm] at g
  | some meth =>
    have hp : meth.isPrivate = true := Cond.privateMethod_at h2 r meth hd2 hm
    have hsel : selectMethod {} s.vm cC r = .method r := by
      unfold selectMethod
      rw [hm]
      simp only [hp, if_true]
    have e : (Cond.selects C y y).before args s = true := by
      simp only [Cond.before, Cond.holds, Cond.value, hC, hb, hd2, hsel]
      simp [hmc, hk, hki]
    exact e
theorem Fr.priv {s0 s : State} {H : Heap} {args : Array Value} {y : MethodName} (h : Fr s0 s H) (hm : Cond.privateMethod y ∈ lw_tbl) : (Cond.privateMethod y).before args s = true := va_tabs (A := #[]) rfl (rfl : (s0.setVm s.vm).vm = s.vm) ((Cond.privateMethod_setVm h.2.1.alike y).trans (h.1.nw hm rfl))
/-- a call of a method that the class above declares -/
def CU (own : String) (index : Nat) (y : MethodName) (cc' : ByteArray) (nL' : Nat) (ret' : Option FieldType) (n : Nat) : Prop := GoodIn WT (.code y cc' nL' ret' :: WT) ∧ Cond.methodLink own index y ∈ WT ∧ Cond.sameMethod y.cls y.cls y.name y.desc ∈ WT ∧ Cond.instanceMethod y ∈ WT ∧ Cond.initialized y.cls ∈ WT ∧ (Cond.selects RJ4 y y ∈ WT ∨ Cond.privateMethod y ∈ lw_tbl) ∧ (y.cls ≠ "java/lang/invoke/MethodHandle" ∧ y.cls ≠ "java/lang/invoke/VarHandle" ∧ (parseMethodDescriptor y.desc).map (fun d => d.parameters.length) = some n) ∧ nL' ≤ 300
theorem V_callU {index d d' mc' ms' n b nL' : Nat} {y : MethodName} {cc' : ByteArray} {ret' : Option FieldType} {as fs : List Value} {Post : Option Value → GH → Prop} {PX : String → GH → Prop} {st0 : List Value} (hC : CU own index y cc' nL' ret' n) (hdg : decode cc pc = .ok (.invokevirtual index, 3)) (hM : Tri D s0 l y cc' nL' ret' d' mc' ms' (.ref b :: as) G Post PX) (hb : G b = some (.inl (9, fs))) (hn : as.length = n) (hst : st0 = as.reverse ++ .ref b :: st) (hW : (st.map fun v => v.category).sum ≤ 8) (hR : 16 * (d + 1) ≤ R.frames ∧ 400 * (d + 1) ≤ R.locals) (hd : d' < d) (hf : cells + mc' ≤ R.cells ∧ slots + ms' ≤ R.slots)
    (kk : ∀ (rv : Option Value) (G' : GH), Post rv G' → V D s0 own mn cc nL ret hh l R Z (pc + 3) lo (rv.toList ++ st) G' (cells + mc') (slots + ms')) (kx : ∀ (E : String) (G' : GH), PX E G' → VX D s0 own mn cc nL ret hh l R Z pc lo st E G' (cells + mc') (slots + ms')) : V D s0 own mn cc nL ret hh l R Z pc lo st0 G cells slots := by
  intro p e s m args below meth c H locs ls C9 hS hE hl
  subst hst
  obtain ⟨hG, hlk, hsm, hin, hini, hsel, hy, hn3⟩ := hC
  have hts := C9.2.2.2.2.2.1
  have hp := pre_V (as := as) C9 hS hE hb (q := (RJ4, TJ4, 4)) rfl
  have hat : ClassAt s RJ4 (D.1 9) := ((C9.2.2.2.2.2.2.2.2.2.2).1 9 (RJ4, TJ4, 4) rfl).2
  have hcode := hG _ List.mem_cons_self
  have h5 : (Cond.selects RJ4 y y).before args s = true := hsel.elim (fun z => hts _ z) (fun z => sel_priv (hts _ hsm) (C9.2.2.2.2.2.2.2.2.2.1.priv z) hat.1)
  have hlen : ∀ sig, parseMethodDescriptor y.desc = some sig → n = sig.parameters.length := fun sig h => by
    have h2 := hy.2.2
    rw [h] at h2
    exact (Option.some.inj h2).symm
  have hro := rm_ok (mc' := mc') (ms' := ms') hR hd hn3
  exact V_run C9 hS hl (vx_runU (Ts := WT) ⟨C9.1, C9.2.1, C9.2.2.1, C9.2.2.2.2.1, hts⟩ hM ⟨⟨rfl, rfl, hro.1, hro.2, pay_in hts hG, List.mem_cons_self⟩, hts _ hcode.1, hts _ hini, ⟨hy.1, hy.2.1⟩, hlen, hts _ hlk, hts _ hsm, va_Decl.of (hts _ hin) (hts _ hcode.1), h5, hts _ hin⟩ hp rfl hn hl.1 rfl (by simpa [JFrame.monitorRoom] using hW) hdg hf) kk kx
/-- super.m(..) -/
def CSU (own : String) (index : Nat) (y : MethodName) (cc' : ByteArray) (nL' : Nat) (ret' : Option FieldType) (n : Nat) : Prop := GoodIn WT (va_wsSU own index y (.code y cc' nL' ret' :: WT)) ∧ (y.name ≠ "<init>" ∧ (parseMethodDescriptor y.desc).map (fun d => d.parameters.length) = some n) ∧ nL' ≤ 300
theorem wt_SU {own : String} {i : Nat} {y : MethodName} {c : Cond} (h1 : Cond.methodLink own i y ∈ WT) (h2 : Cond.sameMethod y.cls y.cls y.name y.desc ∈ WT) (h3 : Cond.superclass own y.cls ∈ WT) (h4 : Cond.instanceMethod y ∈ WT) (h5 : Cond.initialized y.cls ∈ WT) (h6 : c ∈ WT) : GoodIn WT (va_wsSU own i y (c :: WT)) := by
  intro w hw
  unfold va_wsSU at hw
  rcases List.mem_append.mp hw with h | h
  · simp only [List.mem_cons, List.not_mem_nil, or_false] at h
    rcases h with rfl | rfl | rfl | rfl | rfl
    · exact wt_good h1
    · exact wt_good h2
    · exact wt_good h3
    · exact wt_good h4
    · exact wt_good h5
  · exact wt_in h6 w h
theorem V_callSU {index d d' mc' ms' n b nL' : Nat} {y : MethodName} {cc' : ByteArray} {ret' : Option FieldType} {as fs : List Value} {Post : Option Value → GH → Prop} {PX : String → GH → Prop} {st0 : List Value} (hC : CSU own index y cc' nL' ret' n) (hdg : decode cc pc = .ok (.invokespecial index, 3)) (hM : Tri D s0 l y cc' nL' ret' d' mc' ms' (.ref b :: as) G Post PX) (hb : G b = some (.inl (9, fs))) (hn : as.length = n) (hst : st0 = as.reverse ++ .ref b :: st) (hW : (st.map fun v => v.category).sum ≤ 8) (hR : 16 * (d + 1) ≤ R.frames ∧ 400 * (d + 1) ≤ R.locals) (hd : d' < d) (hf : cells + mc' ≤ R.cells ∧ slots + ms' ≤ R.slots)
    (kk : ∀ (rv : Option Value) (G' : GH), Post rv G' → V D s0 own mn cc nL ret hh l R Z (pc + 3) lo (rv.toList ++ st) G' (cells + mc') (slots + ms')) (kx : ∀ (E : String) (G' : GH), PX E G' → VX D s0 own mn cc nL ret hh l R Z pc lo st E G' (cells + mc') (slots + ms')) : V D s0 own mn cc nL ret hh l R Z pc lo st0 G cells slots := by
  intro p e s m args below meth c H locs ls C9 hS hE hl
  subst hst
  obtain ⟨hG, hy, hn3⟩ := hC
  have hts := C9.2.2.2.2.2.1
  have hp := pre_V (as := as) C9 hS hE hb (q := (RJ4, TJ4, 4)) rfl
  have hat : ClassAt s RJ4 (D.1 9) := ((C9.2.2.2.2.2.2.2.2.2.2).1 9 (RJ4, TJ4, 4) rfl).2
  exact V_run C9 hS hl (vx_runSU (Ts := WT) hat ⟨C9.1, C9.2.1, C9.2.2.1, C9.2.2.2.2.1, hts⟩ hM (va_cwSU n hts hG rfl rfl rfl hy (rm_ok hR hd hn3)) hp rfl hn hl.1 rfl (by simpa [JFrame.monitorRoom] using hW) hdg hf) kk kx
theorem V_bast {a n : Nat} {f : Nat → Value} {i : Int32} {x : Int32} (hdg : decode cc pc = .ok (.bastore, 1)) (hc : G a = some (.inr (.byte, n, f))) (hin : vp_in i n) (kk : V D s0 own mn cc nL ret hh l R Z (pc + 1) lo st (gset G a (.inr (.byte, n, updV f i.toNatClampNeg (narrow .byte (.int x))))) cells slots) : V D s0 own mn cc nL ret hh l R Z pc lo (.int x :: .int i :: .ref a :: st) G cells slots := by
  intro p e s m args below meth c H locs ls C9 hS hE hl
  obtain ⟨hB, cA, h1, h2, h3⟩ := hE a _ hc
  dsimp only at h1 h2 h3
  refine W.bast C9.1 C9.2.1 h1 (h2 n f) (fun q => by cases q) (by show ¬ (i < 0 ∨ (arrV _ _ _).slots.size ≤ _); rw [arrV_size]; exact hin) rfl rfl hdg fun H1 e1 z oq => ?_
  refine kk p e s m args below meth c H1 _ ls C9 (hS.put z oq hB) (hE.set hB ⟨cA, ?_, h2, h3⟩ oq) hl
  rw [e1, arrV_store]
  try rfl
theorem nI_nn {n : Nat} (h : n < 2147483648) : ¬ nI n < 0 := by
  rw [show (0 : Int32) = nI 0 from rfl, nI_ltI h (by decide)]
  omega
/-- System.arraycopy of bytes -/
theorem V_copyb {index a0 a n0 n1 sp dp n : Nat} {f g : Nat → Int32} (hlink : Cond.methodLink own index arraycopyName ∈ WT) (hnat : Cond.native arraycopyName ∈ WT) (hstat : Cond.static arraycopyName ∈ WT) (hini : Cond.initialized "java/lang/System" ∈ WT) (hdg : decode cc pc = .ok (.invokestatic index, 3)) (hc0 : G a0 = some (.inr (.byte, n0, fun j => .int (f j)))) (hc1 : G a = some (.inr (.byte, n1, fun j => .int (g j)))) (h4 : sp + n ≤ n0) (h5 : dp + n ≤ n1) (hn0 : n0 < 2147483648) (hn1 : n1 < 2147483648) (hfit : ∀ i, i < n → fits .byte (.int (f (sp + i))) = true) (hR : 1 ≤ R.frames ∧ 400 ≤ R.locals) (hW : (st.map fun v => v.category).sum ≤ 8)
    (kk : V D s0 own mn cc nL ret hh l R Z (pc + 3) lo st (gset G a (.inr (.byte, n1, fun j => .int (va_cpy f g sp dp n j)))) cells slots) : V D s0 own mn cc nL ret hh l R Z pc lo (.int (nI n) :: .int (nI dp) :: .ref a :: .int (nI sp) :: .ref a0 :: st) G cells slots := by
  intro p e s m args below meth c H locs ls C9 hS hE hl
  obtain ⟨hB0, c0, x1, x2, x3⟩ := hE a0 _ hc0
  obtain ⟨hB1, c1, y1, y2, y3⟩ := hE a _ hc1
  dsimp only at x1 x2 x3 y1 y2 y3
  have hts := C9.2.2.2.2.2.1
  have kS := nI_clamp (n := sp) (by omega)
  have kD := nI_clamp (n := dp) (by omega)
  have kN := nI_clamp (n := n) (by omega)
  obtain ⟨-, k0, hk0, cm0, hkk0⟩ := x2 n0 (fun j => .int (f j))
  obtain ⟨-, k1, hk1, cm1, hkk1⟩ := y2 n1 (fun j => .int (g j))
  intro T hT X
  obtain ⟨vm', X', step⟩ := X.arraycopy C9.1 C9.2.2.2.2.1 (hts _ hlink) (hts _ hnat) (hts _ hstat) (hts _ hini) (src := a0) (dst := a) (cs := arrV c0 n0 (fun j => .int (f j))) (cd := arrV c1 n1 (fun j => .int (g j))) (srcPos := nI sp) (destPos := nI dp) (n := nI n) (by rw [hT]; exact x1) (by rw [hT]; exact y1)
    (fun _ h => by cases h) (fun _ h => by cases h) (fun h => by cases h) (fun h => by cases h) hk0 hk1 hkk0 hkk1 (by simp [refKind]) (nI_nn (by omega)) (nI_nn (by omega)) (nI_nn (by omega))
    (by rw [nI_toInt (by omega : sp < 2 ^ 31), nI_toInt (by omega : n < 2 ^ 31), arrV_size]; omega)
    (by rw [nI_toInt (by omega : dp < 2 ^ 31), nI_toInt (by omega : n < 2 ^ 31), arrV_size]; omega)
    (fun vm₁ _ i hi => by
      rw [kN] at hi
      rw [kS, Array.getD_eq_getD_getElem?, arrV_read _ _ (by omega)]
      exact ⟨hfit i hi, trivial⟩)
    (g := F0 m pc ls (.int (nI n) :: .int (nI dp) :: .ref a :: .int (nI sp) :: .ref a0 :: st)) rfl (by rw [C9.2.2.1]; exact hl.1) (rest := st) rfl (by rw [C9.2.1]; exact hdg) hR.1 (by
      have hw : nativeFrameWords "java/lang/System" "arraycopy" 5 + 11 ≤ 300 := by decide +kernel
      show 2 * 0 + _ + _ ≤ _
      have := hR.2
      omega)
  have e1 : copied (arrV c0 n0 (fun j => .int (f j))) (arrV c1 n1 (fun j => .int (g j))) (nI sp) (nI dp) (nI n) = arrV c1 n1 (fun j => .int (va_cpy f g sp dp n j)) := by
    have := va_copied (fun z => .int z) c0 c1 f g (n0 := n0) (n1 := n1) (sp := sp) (dp := dp) (n := n) h4
    unfold copied
    rw [kS, kD, kN]
    exact this
  rw [e1] at X' step
  have hlt : a < H.size := (Array.getElem?_eq_some_iff.mp y1).1
  have oq : ∀ q : Nat, q ≠ a → (H.setIfInBounds a (arrV c1 n1 (fun j => .int (va_cpy f g sp dp n j))))[q]? = H[q]? := fun q hq => by simp [Array.getElem?_setIfInBounds, Ne.symm hq]
  have hheap : ((T.setVm vm').setCell a (arrV c1 n1 (fun j => .int (va_cpy f g sp dp n j)))).heap = H.setIfInBounds a (arrV c1 n1 (fun j => .int (va_cpy f g sp dp n j))) := by rw [← hT]; rfl
  obtain ⟨t, a1, b1⟩ := kk p e s m args below meth c _ _ ls C9 ⟨by simp; exact hS.1, fun q g1 g2 => by
      rw [oq q (fun z => g2 (by rw [z]; exact hB1))]
      exact hS.2.1 q g1 g2, fun q hq => by
      rcases List.mem_append.mp hq with h | h
      · exact hS.2.2 q h
      · obtain ⟨z, -, hz⟩ := List.mem_map.mp h
        rw [← hz]
        exact hB1⟩ (hE.set hB1 ⟨c1, by simp [Array.getElem?_setIfInBounds, hlt], y2, y3⟩ oq) hl _ hheap X'
  exact ⟨t, step t a1, b1⟩
end V37

theorem fl_J5_15 : FL RJ5 15 9 0 := ⟨RJ4, TJ4, 4, tyJ4, RJ5, rfl, by decide, uw_J4, tyJ4_ok, nmJ4, (wt_mem 335 (by decide +kernel) (by decide +kernel)), by decide +kernel⟩
theorem fl_J5_22 : FL RJ5 22 9 1 := ⟨RJ4, TJ4, 4, tyJ4, RJ5, rfl, by decide, uw_J4, tyJ4_ok, nmJ4, (wt_mem 336 (by decide +kernel) (by decide +kernel)), by decide +kernel⟩
theorem fl_J5_73 : FL RJ5 73 9 2 := ⟨RJ4, TJ4, 4, tyJ4, RJ5, rfl, by decide, uw_J4, tyJ4_ok, nmJ4, (wt_mem 337 (by decide +kernel) (by decide +kernel)), by decide +kernel⟩
theorem fl_J5_79 : FL RJ5 79 9 3 := ⟨RJ4, TJ4, 4, tyJ4, RJ5, rfl, by decide, uw_J4, tyJ4_ok, nmJ4, (wt_mem 339 (by decide +kernel) (by decide +kernel)), by decide +kernel⟩
theorem cu_J5_100 : CU RJ5 100 yJ5_ensureCapacityInternal_d00df cJ5_ensureCapacityInternal_d00df 3 (none) 1 := ⟨wt_in (wt_mem 1102 (by decide +kernel) (by decide +kernel)), (wt_mem 1099 (by decide +kernel) (by decide +kernel)), (wt_mem 1809 (by decide +kernel) (by decide +kernel)), (wt_mem 1101 (by decide +kernel) (by decide +kernel)), (wt_mem 54 (by decide +kernel) (by decide +kernel)), Or.inr (List.mem_of_getElem? (i := 1100) (by decide +kernel)), ⟨by decide +kernel, by decide +kernel, by decide +kernel⟩, by decide⟩
theorem cu_J5_83 : CU RJ5 83 yJ5_isLatin1_aae02 cJ5_isLatin1_aae02 1 ((some .boolean)) 0 := ⟨wt_in (wt_mem 1134 (by decide +kernel) (by decide +kernel)), (wt_mem 1130 (by decide +kernel) (by decide +kernel)), (wt_mem 1132 (by decide +kernel) (by decide +kernel)), (wt_mem 1131 (by decide +kernel) (by decide +kernel)), (wt_mem 54 (by decide +kernel) (by decide +kernel)), Or.inl (wt_mem 1133 (by decide +kernel) (by decide +kernel)), ⟨by decide +kernel, by decide +kernel, by decide +kernel⟩, by decide⟩
theorem cu_J5_104 : CU RJ5 104 yJ5_newCapacity_0f7a4 cJ5_newCapacity_0f7a4 6 ((some .int)) 1 := ⟨wt_in (wt_mem 1106 (by decide +kernel) (by decide +kernel)), (wt_mem 1103 (by decide +kernel) (by decide +kernel)), (wt_mem 1810 (by decide +kernel) (by decide +kernel)), (wt_mem 1105 (by decide +kernel) (by decide +kernel)), (wt_mem 54 (by decide +kernel) (by decide +kernel)), Or.inr (List.mem_of_getElem? (i := 1104) (by decide +kernel)), ⟨by decide +kernel, by decide +kernel, by decide +kernel⟩, by decide⟩
theorem csu_J4_333 : CSU RJ4 333 yJ5_setLength_d00df cJ5_setLength_d00df 2 (none) 1 := ⟨wt_SU (wt_mem 1077 (by decide +kernel) (by decide +kernel)) (wt_mem 1806 (by decide +kernel) (by decide +kernel)) (wt_mem 348 (by decide +kernel) (by decide +kernel)) (wt_mem 1078 (by decide +kernel) (by decide +kernel)) (wt_mem 54 (by decide +kernel) (by decide +kernel)) (wt_mem 1079 (by decide +kernel) (by decide +kernel)), ⟨by decide +kernel, by decide +kernel⟩, by decide⟩
theorem csu_J4_53 : CSU RJ4 53 yJ5_append_c97b9 cJ5_append_c97b9 4 ((some (.object "java/lang/AbstractStringBuilder"))) 1 := ⟨wt_SU (wt_mem 1180 (by decide +kernel) (by decide +kernel)) (wt_mem 1814 (by decide +kernel) (by decide +kernel)) (wt_mem 348 (by decide +kernel) (by decide +kernel)) (wt_mem 1181 (by decide +kernel) (by decide +kernel)) (wt_mem 54 (by decide +kernel) (by decide +kernel)) (wt_mem 1182 (by decide +kernel) (by decide +kernel)), ⟨by decide +kernel, by decide +kernel⟩, by decide⟩
theorem csu_J4_50 : CSU RJ4 50 yJ5_append_3fe6f cJ5_append_3fe6f 2 ((some (.object "java/lang/AbstractStringBuilder"))) 1 := ⟨wt_SU (wt_mem 1300 (by decide +kernel) (by decide +kernel)) (wt_mem 1815 (by decide +kernel) (by decide +kernel)) (wt_mem 348 (by decide +kernel) (by decide +kernel)) (wt_mem 1301 (by decide +kernel) (by decide +kernel)) (wt_mem 54 (by decide +kernel) (by decide +kernel)) (wt_mem 1302 (by decide +kernel) (by decide +kernel)), ⟨by decide +kernel, by decide +kernel⟩, by decide⟩
theorem csu_J4_343 : CSU RJ4 343 yJ5_length_8abf5 cJ5_length_8abf5 1 ((some .int)) 0 := ⟨wt_SU (wt_mem 1224 (by decide +kernel) (by decide +kernel)) (wt_mem 1220 (by decide +kernel) (by decide +kernel)) (wt_mem 348 (by decide +kernel) (by decide +kernel)) (wt_mem 1219 (by decide +kernel) (by decide +kernel)) (wt_mem 54 (by decide +kernel) (by decide +kernel)) (wt_mem 1225 (by decide +kernel) (by decide +kernel)), ⟨by decide +kernel, by decide +kernel⟩, by decide⟩
theorem csu_J4_329 : CSU RJ4 329 yJ5_charAt_5068e cJ5_charAt_5068e 5 ((some .char)) 1 := ⟨wt_SU (wt_mem 1336 (by decide +kernel) (by decide +kernel)) (wt_mem 1817 (by decide +kernel) (by decide +kernel)) (wt_mem 348 (by decide +kernel) (by decide +kernel)) (wt_mem 1337 (by decide +kernel) (by decide +kernel)) (wt_mem 54 (by decide +kernel) (by decide +kernel)) (wt_mem 1338 (by decide +kernel) (by decide +kernel)), ⟨by decide +kernel, by decide +kernel⟩, by decide⟩
theorem csx_J5_114 : CSX RJ5 114 yJ8_newLength_cabcc cJ8_newLength_cabcc 4 ((some .int)) 3 := ⟨wt_SW (wt_mem 1107 (by decide +kernel) (by decide +kernel)) (wt_mem 1108 (by decide +kernel) (by decide +kernel)) (wt_mem 73 (by decide +kernel) (by decide +kernel)) (wt_mem 1109 (by decide +kernel) (by decide +kernel)), ⟨by decide +kernel, by decide +kernel, by decide +kernel⟩, by decide⟩
theorem csx_J5_108 : CSX RJ5 108 yJ7_copyOf_9075b cJ7_copyOf_9075b 3 ((some (.array .byte))) 2 := ⟨wt_SW (wt_mem 1116 (by decide +kernel) (by decide +kernel)) (wt_mem 1117 (by decide +kernel) (by decide +kernel)) (wt_mem 74 (by decide +kernel) (by decide +kernel)) (wt_mem 1118 (by decide +kernel) (by decide +kernel)), ⟨by decide +kernel, by decide +kernel, by decide +kernel⟩, by decide⟩
theorem csx_J5_191 : CSX RJ5 191 yJ1_canEncode_fc78d cJ1_canEncode_fc78d 1 ((some .boolean)) 1 := ⟨wt_SW (wt_mem 1303 (by decide +kernel) (by decide +kernel)) (wt_mem 1304 (by decide +kernel) (by decide +kernel)) (wt_mem 69 (by decide +kernel) (by decide +kernel)) (wt_mem 1305 (by decide +kernel) (by decide +kernel)), ⟨by decide +kernel, by decide +kernel, by decide +kernel⟩, by decide⟩
theorem csx_J5_245 : CSX RJ5 245 yJ6_stringSize_0f7a4 cJ6_stringSize_0f7a4 4 ((some .int)) 1 := ⟨wt_SW (wt_mem 1183 (by decide +kernel) (by decide +kernel)) (wt_mem 1184 (by decide +kernel) (by decide +kernel)) (wt_mem 77 (by decide +kernel) (by decide +kernel)) (wt_mem 1185 (by decide +kernel) (by decide +kernel)), ⟨by decide +kernel, by decide +kernel, by decide +kernel⟩, by decide⟩
theorem csx_J5_248 : CSX RJ5 248 yJ6_getChars_ba4f3 cJ6_getChars_ba4f3 7 ((some .int)) 3 := ⟨wt_SW (wt_mem 1186 (by decide +kernel) (by decide +kernel)) (wt_mem 1187 (by decide +kernel) (by decide +kernel)) (wt_mem 77 (by decide +kernel) (by decide +kernel)) (wt_mem 1188 (by decide +kernel) (by decide +kernel)), ⟨by decide +kernel, by decide +kernel, by decide +kernel⟩, by decide⟩
theorem csx_J5_144 : CSX RJ5 144 yJ0_checkIndex_df160 cJ0_checkIndex_df160 2 (none) 2 := ⟨wt_SW (wt_mem 1340 (by decide +kernel) (by decide +kernel)) (wt_mem 1313 (by decide +kernel) (by decide +kernel)) (wt_mem 56 (by decide +kernel) (by decide +kernel)) (wt_mem 1314 (by decide +kernel) (by decide +kernel)), ⟨by decide +kernel, by decide +kernel, by decide +kernel⟩, by decide⟩
