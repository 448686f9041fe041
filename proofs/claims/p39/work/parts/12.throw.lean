/-! throwing; the history; the face's changes -/
def okw (w : Cond) : Bool := goodWord w || (match w with
  | .castable _ _ => true
  | .declares _ => true
  | _ => false)
theorem okw_at {s0 s : State} {args : Array Value} {H : Heap} (hF : Fr s0 s H) (hts : ∀ w ∈ WT, w.before args s = true) {w : Cond} (hw : w ∈ lw_tbl) (ho : okw w = true) : w.before args s = true := by
  by_cases g : goodWord w = true
  · exact hts w (List.mem_filter.mpr ⟨hw, g⟩)
  · cases w with
    | castable C T => exact va_Nw.use rfl (va_Nw.warmC hF.2.1 (hF.1.nw hw rfl))
    | declares x => exact va_Nw.use rfl (va_Nw.warmD hF.2.1 (hF.1.nw hw rfl))
    | _ => exact absurd ho (by simp [okw, g])
theorem S0.zq {s0 : State} (h : S0 s0) {C n d : String} (h1 : Cond.laysStatic C n d ∈ lw_tbl) (h2 : Cond.initialized C ∈ lw_tbl) (h3 : Cond.isRef (.static C n d) ∈ flatC (Jvm.Cond.and given_1 narrow_1)) : vx_Zq C n d (bA s0) s0 s0.heap := by
  obtain ⟨b, g1, g2⟩ := h
  exact vx_Zqof (g1 _ h1) (g1 _ h2) (flat_of_before _ g2 _ h3) (fun a ha q => absurd ha (Nat.not_lt.mpr q))
theorem Fr.zq {s0 s : State} (hF : Fr s0 s s.heap) {C n d : String} (h : vx_Zq C n d (bA s0) s0 s0.heap) : vx_Zq C n d (bA s0) s s.heap :=
  vx_Zq.moved hF.2.1.alike (h.kept (fun a ha _ => hF.2.2.2 a ha))
theorem S0.str {s0 s : State} (h : S0 s0) {own tx : String} {k : Nat} (h1 : Cond.stringRef own k tx ∈ lw_tbl) (hW : s0.WarmedH s.vm) {c : ClassId} (ho : s.vm.findClass own = some c) : ∃ sa, vk_R own k tx sa s := by
  obtain ⟨b, g1, -⟩ := h
  have ho0 : s0.vm.findClass own = some c := by rw [← hW.alike.findClass]; exact ho
  obtain ⟨-, -, -, sa, -, -, -, -, -, hev⟩ := Cond.stringRef_spec ho0 (g1 _ h1)
  exact ⟨sa, vk_R.warm hW (vk_R.of (g1 _ h1) hev)⟩
theorem zq_U {s0 : State} (h : S0 s0) : vx_Zq Bundle.tN "UNASSIGNED_STACK" Bundle.steD (bA s0) s0 s0.heap := h.zq (by decide +kernel) (by decide +kernel) (by decide +kernel)
theorem zq_N {s0 : State} (h : S0 s0) : vx_Zq Bundle.tN "SUPPRESSED_SENTINEL" Bundle.listD (bA s0) s0 s0.heap := h.zq (by decide +kernel) (by decide +kernel) (by decide +kernel)
abbrev exN : List String := ["java/lang/RuntimeException", "java/lang/Exception"]
/-- what 'new E(..)' needs -/
def TH (own : String) (ik ic : Nat) (cls : String) : Prop := Bundle.fit cls = true ∧ (∀ n ∈ exN, Bundle.fit n = true) ∧ Cond.classLink own ik cls ∈ WT ∧ Cond.initialized cls ∈ WT ∧ (∀ w ∈ vx_atS own ic cls exN, w ∈ lw_tbl ∧ okw w = true) ∧ ∀ w ∈ Cond.classLink own ik cls :: Cond.initialized cls :: vx_atS own ic cls exN, vx_ot w = true
theorem TH.of {own cls : String} {ik ic : Nat} (h1 : Bundle.fit cls = true) (h2 : exN.all (fun n => Bundle.fit n) = true) (h3 : Cond.classLink own ik cls ∈ WT) (h4 : Cond.initialized cls ∈ WT) (h5 : (vx_atS own ic cls exN).all (fun w => decide (w ∈ lw_tbl) && (okw w && vx_ot w)) = true) (h6 : (vx_ot (Cond.classLink own ik cls) && vx_ot (Cond.initialized cls)) = true) : TH own ik ic cls := by
  have k5 := List.all_eq_true.mp h5
  simp only [Bool.and_eq_true, decide_eq_true_eq] at k5 h6
  refine ⟨h1, fun n hn => List.all_eq_true.mp h2 n hn, h3, h4, fun w hw => ⟨(k5 w hw).1, (k5 w hw).2.1⟩, fun w hw => ?_⟩
  rcases List.mem_cons.mp hw with rfl | hw
  · exact h6.1
  · rcases List.mem_cons.mp hw with rfl | hw
    · exact h6.2
    · exact (k5 w hw).2.2
section VT
variable {D : va_G} {s0 : State} {own mn : String} {cc : ByteArray} {nL : Nat} {ret : Option FieldType} {l : Launch} {pc : Nat} {lo : List (Nat × Value)} {st : List Value} {G : GH} {cells slots : Nat}
theorem V_throwS {d mc ms ik is ic : Nat} {cls tx : String} {Post : Option Value → GH → Prop} {PX : String → GH → Prop} (hT : TH own ik ic cls) (hs : Cond.stringRef own is tx ∈ lw_tbl) (hl : l.stackTraces = false) (d0 : decode cc pc = .ok (.new ik, 3)) (d3 : decode cc (pc + 3) = .ok (.dup, 1)) (d4 : decode cc (pc + 4) = .ok (.ldc is, 2)) (d6 : decode cc (pc + 6) = .ok (.invokespecial ic, 3)) (d9 : decode cc (pc + 9) = .ok (.athrow, 1)) (hd9 : 1 ≤ d) (hst : (st.map fun v => v.category).sum ≤ 8) (hc : cells + 1 ≤ mc) (hsl : slots + 6 ≤ ms) (hp : PX cls G) : V D s0 own mn cc nL ret [] l (rmd d mc ms) (Zm D s0 mc ms Post PX) pc lo st G cells slots := by
  intro p e s m args below meth c H locs ls C9 hS hE hl9
  have hts := C9.2.2.2.2.2.1
  have hF := C9.2.2.2.2.2.2.2.2.2.1
  obtain ⟨t1, t2, t3, t4, t5, t6⟩ := hT
  obtain ⟨sa, hstr⟩ := hF.1.str hs hF.2.1 C9.2.2.2.2.1
  have ht : c.exceptionTable.toList = [] := C9.2.2.2.2.2.2.2.2.1
  refine vx_throwS (A := bA s0) (names := exN) C9.1 C9.2.1 hl C9.2.2.2.2.1 t1 t2 (hts _ t3) (hts _ t4) hstr (fun w hw => okw_at hF hts (t5 w hw).1 (t5 w hw).2) t6 (hF.zq (zq_U hF.1)) (hF.zq (zq_N hF.1)) hS (hl9.1.trans C9.2.2.1.symm) d0 d3 d4 d6 d9 (fun x hx => by rw [ht] at hx; cases hx) (by show 2 + 3 < d + 5; omega) (by show _ + (13 * (2 + 1) + 43) ≤ 35 * d + 120; omega) hc hsl C9.2.2.2.2.2.2.1 (fun t hal hz hq => ⟨G, hp, ?_, ?_⟩) hS.2.2 hc hsl
  · exact Emb.moved hal (fun a x ha => ⟨(hE a x ha).1, (hE a x ha).2.kept (hq a (hE a x ha).2.lt)⟩)
  · exact ⟨Nat.le_trans hS.1 hz, fun q h1 h2 => (hq q (Nat.lt_of_lt_of_le h1 hS.1)).trans (hS.2.1 q h1 h2)⟩
theorem V_throwSW {d mc ms ik is ic : Nat} {cls tx : String} {Post : Option Value → GH → Prop} {PX : String → GH → Prop} (hT : TH own ik ic cls) (hs : Cond.stringRef own is tx ∈ lw_tbl) (hl : l.stackTraces = false) (d0 : decode cc pc = .ok (.new ik, 3)) (d3 : decode cc (pc + 3) = .ok (.dup, 1)) (d4 : decode cc (pc + 4) = .ok (.ldc_w is, 3)) (d7 : decode cc (pc + 7) = .ok (.invokespecial ic, 3)) (d10 : decode cc (pc + 10) = .ok (.athrow, 1)) (hd9 : 1 ≤ d) (hst : (st.map fun v => v.category).sum ≤ 8) (hc : cells + 1 ≤ mc) (hsl : slots + 6 ≤ ms) (hp : PX cls G) : V D s0 own mn cc nL ret [] l (rmd d mc ms) (Zm D s0 mc ms Post PX) pc lo st G cells slots := by
  intro p e s m args below meth c H locs ls C9 hS hE hl9
  have hts := C9.2.2.2.2.2.1
  have hF := C9.2.2.2.2.2.2.2.2.2.1
  obtain ⟨t1, t2, t3, t4, t5, t6⟩ := hT
  obtain ⟨sa, hstr⟩ := hF.1.str hs hF.2.1 C9.2.2.2.2.1
  have ht : c.exceptionTable.toList = [] := C9.2.2.2.2.2.2.2.2.1
  refine vx_throwSW (A := bA s0) (names := exN) C9.1 C9.2.1 hl C9.2.2.2.2.1 t1 t2 (hts _ t3) (hts _ t4) hstr (fun w hw => okw_at hF hts (t5 w hw).1 (t5 w hw).2) t6 (hF.zq (zq_U hF.1)) (hF.zq (zq_N hF.1)) hS (hl9.1.trans C9.2.2.1.symm) d0 d3 d4 d7 d10 (fun x hx => by rw [ht] at hx; cases hx) (by show 2 + 3 < d + 5; omega) (by show _ + (13 * (2 + 1) + 43) ≤ 35 * d + 120; omega) hc hsl C9.2.2.2.2.2.2.1 (fun t hal hz hq => ⟨G, hp, ?_, ?_⟩) hS.2.2 hc hsl
  · exact Emb.moved hal (fun a x ha => ⟨(hE a x ha).1, (hE a x ha).2.kept (hq a (hE a x ha).2.lt)⟩)
  · exact ⟨Nat.le_trans hS.1 hz, fun q h1 h2 => (hq q (Nat.lt_of_lt_of_le h1 hS.1)).trans (hS.2.1 q h1 h2)⟩
end VT

def TX (own : String) (ik ic : Nat) (cls : String) (ix : Nat) (rx : ByteArray) : Prop := Bundle.fit cls = true ∧ (∀ n ∈ exN, Bundle.fit n = true) ∧ Cond.classLink own ik cls ∈ WT ∧ Cond.initialized cls ∈ WT ∧ (∀ w ∈ (vy_atoms own ic cls ix rx exN).filter vx_no, w ∈ lw_tbl ∧ okw w = true) ∧ (∀ w ∈ Cond.classLink own ik cls :: Cond.initialized cls :: (vy_atoms own ic cls ix rx exN).filter vx_no, vx_ot w = true) ∧ (decode rx 0 = .ok (.aload_n 0, 1) ∧ decode rx 1 = .ok (.aload_n 1, 1) ∧ decode rx 2 = .ok (.invokespecial ix, 3) ∧ decode rx 5 = .ok (.return_, 1))
theorem TX.of {own cls : String} {ik ic ix : Nat} {rx : ByteArray} (h1 : Bundle.fit cls = true) (h2 : exN.all (fun n => Bundle.fit n) = true) (h3 : Cond.classLink own ik cls ∈ WT) (h4 : Cond.initialized cls ∈ WT) (h5 : ((vy_atoms own ic cls ix rx exN).filter vx_no).all (fun w => decide (w ∈ lw_tbl) && (okw w && vx_ot w)) = true) (h6 : (vx_ot (Cond.classLink own ik cls) && vx_ot (Cond.initialized cls)) = true) (h7 : decode rx 0 = .ok (.aload_n 0, 1) ∧ decode rx 1 = .ok (.aload_n 1, 1) ∧ decode rx 2 = .ok (.invokespecial ix, 3) ∧ decode rx 5 = .ok (.return_, 1)) : TX own ik ic cls ix rx := by
  have k5 := List.all_eq_true.mp h5
  simp only [Bool.and_eq_true, decide_eq_true_eq] at k5 h6
  refine ⟨h1, fun n hn => List.all_eq_true.mp h2 n hn, h3, h4, fun w hw => ⟨(k5 w hw).1, (k5 w hw).2.1⟩, fun w hw => ?_, h7⟩
  rcases List.mem_cons.mp hw with rfl | hw
  · exact h6.1
  · rcases List.mem_cons.mp hw with rfl | hw
    · exact h6.2
    · exact (k5 w hw).2.2
theorem V_throwX {D : va_G} {s0 : State} {own mn : String} {cc : ByteArray} {nL : Nat} {ret : Option FieldType} {l : Launch} {pc : Nat} {lo : List (Nat × Value)} {st : List Value} {G : GH} {cells slots : Nat} {d mc ms ik is ic ix : Nat} {rx : ByteArray} {cls tx : String} {Post : Option Value → GH → Prop} {PX : String → GH → Prop} (hT : TX own ik ic cls ix rx) (hs : Cond.stringRef own is tx ∈ lw_tbl) (hl : l.stackTraces = false) (d0 : decode cc pc = .ok (.new ik, 3)) (d3 : decode cc (pc + 3) = .ok (.dup, 1)) (d4 : decode cc (pc + 4) = .ok (.ldc is, 2)) (d6 : decode cc (pc + 6) = .ok (.invokespecial ic, 3)) (d9 : decode cc (pc + 9) = .ok (.athrow, 1)) (hd9 : 1 ≤ d) (hst : (st.map fun v => v.category).sum ≤ 8) (hc : cells + 1 ≤ mc) (hsl : slots + 6 ≤ ms) (hp : PX cls G) : V D s0 own mn cc nL ret [] l (rmd d mc ms) (Zm D s0 mc ms Post PX) pc lo st G cells slots := by
  intro p e s m args below meth c H locs ls C9 hS hE hl9
  have hts := C9.2.2.2.2.2.1
  have hF := C9.2.2.2.2.2.2.2.2.2.1
  obtain ⟨t1, t2, t3, t4, t5, t6, x0, x1, x2, x5⟩ := hT
  obtain ⟨sa, hstr⟩ := hF.1.str hs hF.2.1 C9.2.2.2.2.1
  have ht : c.exceptionTable.toList = [] := C9.2.2.2.2.2.2.2.2.1
  refine vy_makeS (A := bA s0) (names := exN) C9.1 C9.2.1 hl x0 x1 x2 x5 C9.2.2.2.2.1 t1 t2 (hts _ t3) (hts _ t4) hstr (fun w hw => okw_at hF hts (t5 w hw).1 (t5 w hw).2) t6 (hF.zq (zq_U hF.1)) (hF.zq (zq_N hF.1)) hS (hl9.1.trans C9.2.2.1.symm) d0 d3 d4 d6 (by show 2 + 3 < d + 5; omega) (by show _ + (13 * (2 + 1) + 43) ≤ 35 * d + 120; omega) hc hsl (fun q ce H1 e1 e2 e3 e4 e5 => ?_)
  have hS1 : va_S (bA s0) s.heap H1 locs := ⟨Nat.le_trans hS.1 e4, fun q h1 h2 => (e5 q (Nat.lt_of_lt_of_le h1 hS.1)).trans (hS.2.1 q h1 h2), hS.2.2⟩
  have hE1 : Emb D s0.heap.size s G H1 := fun a x ha => ⟨(hE a x ha).1, (hE a x ha).2.kept (e5 a (hE a x ha).2.lt)⟩
  exact vx_athrow C9.1 C9.2.1 d9 (vx_out (fun x hx => by rw [ht] at hx; cases hx) C9.2.2.2.2.2.2.1 e1 e2 e3 (fun t ht9 hal => ⟨G, hp, by rw [ht9]; exact Emb.moved hal hE1, hS1.F ht9⟩) hS1.2.2 hc hsl)

theorem th_109 : TH RX7 109 113 "java/lang/IndexOutOfBoundsException" := TH.of (by decide +kernel) (by decide +kernel) (wt_mem 631 (by decide +kernel) (by decide +kernel)) (wt_mem 23 (by decide +kernel) (by decide +kernel)) (by decide +kernel) (by decide +kernel)
theorem th_120 : TH RX7 120 124 "java/lang/IllegalArgumentException" := TH.of (by decide +kernel) (by decide +kernel) (wt_mem 310 (by decide +kernel) (by decide +kernel)) (wt_mem 22 (by decide +kernel) (by decide +kernel)) (by decide +kernel) (by decide +kernel)
theorem th_163 : TX RX7 163 167 "java/util/NoSuchElementException" 13 prog_29_method_4_code := TX.of (by decide +kernel) (by decide +kernel) (wt_mem 730 (by decide +kernel) (by decide +kernel)) (wt_mem 25 (by decide +kernel) (by decide +kernel)) (by decide +kernel) (by decide +kernel) ⟨by decide +kernel, by decide +kernel, by decide +kernel, by decide +kernel⟩
theorem th_218 : TH RX7 218 222 "java/lang/UnsupportedOperationException" := TH.of (by decide +kernel) (by decide +kernel) (wt_mem 446 (by decide +kernel) (by decide +kernel)) (wt_mem 20 (by decide +kernel) (by decide +kernel)) (by decide +kernel) (by decide +kernel)
theorem th_276 : TH RX7 276 280 "java/lang/ArithmeticException" := TH.of (by decide +kernel) (by decide +kernel) (wt_mem 683 (by decide +kernel) (by decide +kernel)) (wt_mem 24 (by decide +kernel) (by decide +kernel)) (by decide +kernel) (by decide +kernel)
theorem sr_289 : Cond.stringRef RX7 289 "no such account" ∈ lw_tbl := List.mem_of_getElem? (i := 353) (by decide +kernel)
theorem sr_313 : Cond.stringRef RX7 313 "refused" ∈ lw_tbl := List.mem_of_getElem? (i := 455) (by decide +kernel)
theorem sr_134 : Cond.stringRef RX7 134 "no such carrier" ∈ lw_tbl := List.mem_of_getElem? (i := 640) (by decide +kernel)
theorem sr_136 : Cond.stringRef RX7 136 "no such number of a carrier" ∈ lw_tbl := List.mem_of_getElem? (i := 647) (by decide +kernel)
theorem sr_111 : Cond.stringRef RX7 111 "no such house" ∈ lw_tbl := List.mem_of_getElem? (i := 676) (by decide +kernel)
theorem sr_122 : Cond.stringRef RX7 122 "no such number of a house" ∈ lw_tbl := List.mem_of_getElem? (i := 677) (by decide +kernel)
theorem sr_278 : Cond.stringRef RX7 278 "there are no houses" ∈ lw_tbl := List.mem_of_getElem? (i := 692) (by decide +kernel)
theorem sr_284 : Cond.stringRef RX7 284 "no sack was carried up" ∈ lw_tbl := List.mem_of_getElem? (i := 704) (by decide +kernel)
theorem sr_141 : Cond.stringRef RX7 141 "no such shoe" ∈ lw_tbl := List.mem_of_getElem? (i := 717) (by decide +kernel)
theorem sr_183 : Cond.stringRef RX7 183 "no such rank" ∈ lw_tbl := List.mem_of_getElem? (i := 739) (by decide +kernel)
set_option maxHeartbeats 4000000 in
set_option maxRecDepth 100000 in
theorem t_X2_note {D : va_G} {s0 : State} {l : Launch} {B : Nat} {A : AT} {σ : Sg} (hA : AOK B A) {nx : Nat} (hnx : σ.1 3 0 0 = nI nx) (hx9 : nx < 9) (hb : ∀ i, i < 8 → σ.1 5 0 (hx i 7) = 0 ∨ σ.1 5 0 (hx i 7) = 1) : Tri D s0 l yX2_note cX2_note 2 (none) 2 0 0 [.ref (A 3 0 0), .ref (A 5 0 0)] (HP A σ) (fun r G' => r = none ∧ G' = HP A (cp σ (2 + nx) 0 (fun j => decide (j < 102)))) noX := by
  refine Tri.ofV (own := RX2) (mn := "note") (by decide +kernel) rfl rfl (Nat.le_of_ble_eq_true rfl) ?_
  refine V_aload_n (i := 0) dX2_note_0 rfl rfl ?_
  refine V_getf fl_X2_13 dX2_note_1 (hp3 hA) rfl ?_
  refine V_aload_n (i := 0) dX2_note_4 rfl rfl ?_
  refine V_getf fl_X2_18 dX2_note_5 (hp3 hA) rfl ?_
  refine V_aald9 dX2_note_8 (hp4 hA) rfl hnx (by omega) (by decide) rfl ?_
  refine V_aload_n (i := 1) dX2_note_9 rfl rfl ?_
  refine Cv0_1 (d := 2) cv_X2_22 dX2_note_10 (t_X5_copyFrom hA (by omega) (by decide) (by omega) hb) (hp5 hA (by omega)) rfl rfl (Nat.le_of_ble_eq_true rfl) ⟨Nat.le_refl _, Nat.le_refl _⟩ (by decide) ⟨Nat.le_of_ble_eq_true rfl, Nat.le_of_ble_eq_true rfl⟩ ?_
  refine V_vret dX2_note_13 rfl (Nat.le_of_ble_eq_true rfl) (Nat.le_of_ble_eq_true rfl) ?_
  exact ⟨rfl, rfl⟩


def kpN (σ : Sg) (nx cn : Nat) : Sg := w3 (w3 σ 3 0 0 (nI ((nx + 1) % 9))) 3 0 1 (nI (if cn + 1 < 8 then cn + 1 else 8))
theorem rem9 {n : Nat} (h : n < 1000) : nI n - nI n / 9 * 9 = nI (n % 9) := pk_rem (a := n) (d := 9) (by omega) (by decide) (by decide)

set_option maxHeartbeats 4000000 in
set_option maxRecDepth 100000 in
theorem t_X2_keepNoted {D : va_G} {s0 : State} {l : Launch} {B : Nat} {A : AT} {σ : Sg} (hA : AOK B A) {nx : Nat} (hnx : σ.1 3 0 0 = nI nx) (hx9 : nx < 9) {cn : Nat} (hcn : σ.1 3 0 1 = nI cn) (hc8 : cn ≤ 8) : Tri D s0 l yX2_keepNoted cX2_keepNoted 1 (none) 0 0 0 [.ref (A 3 0 0)] (HP A σ) (fun r G' => r = none ∧ G' = HP A (kpN σ nx cn)) noX := by
  refine Tri.ofV (own := RX2) (mn := "keepNoted") (by decide +kernel) rfl rfl (Nat.le_of_ble_eq_true rfl) ?_
  refine V_aload_n (i := 0) dX2_keepNoted_0 rfl rfl ?_
  refine V_aload_n (i := 0) dX2_keepNoted_1 rfl rfl ?_
  refine V_getf fl_X2_18 dX2_keepNoted_2 (hp3 hA) rfl ?_
  refine V_iconst (v := 1) dX2_keepNoted_5 (by decide) ?_
  refine V_iadd dX2_keepNoted_6 ?_
  refine V_bipush (v := 9) dX2_keepNoted_7 (by decide) ?_
  refine V_irem dX2_keepNoted_9 (by decide) ?_
  rw [show σ.1 3 0 0 + 1 = nI (nx + 1) from by rw [hnx]; exact nI_1 nx, rem9 (by omega)]
  refine VP_3_1 fl_X2_18 dX2_keepNoted_10 hA ?_
  refine V_aload_n (i := 0) dX2_keepNoted_13 rfl rfl ?_
  refine V_bipush (v := 8) dX2_keepNoted_14 (by decide) ?_
  refine V_aload_n (i := 0) dX2_keepNoted_16 rfl rfl ?_
  refine V_getf fl_X2_26 dX2_keepNoted_17 (hp3 hA) rfl ?_
  refine V_iconst (v := 1) dX2_keepNoted_20 (by decide) ?_
  refine V_iadd dX2_keepNoted_21 ?_
  refine V_mmin cm_X2_29 dX2_keepNoted_22 (Nat.le_of_ble_eq_true rfl) (Nat.le_of_ble_eq_true rfl) (Nat.le_of_ble_eq_true rfl) (Nat.le_of_ble_eq_true rfl) ?_
  rw [show (if (w3 σ 3 0 0 (nI ((nx + 1) % 9))).1 3 0 1 + 1 < 8 then (w3 σ 3 0 0 (nI ((nx + 1) % 9))).1 3 0 1 + 1 else 8) = nI (if cn + 1 < 8 then cn + 1 else 8) from by
    rw [w3_ne (by omega), hcn, show nI cn + 1 = nI (cn + 1) from nI_1 cn, show (8 : Int32) = nI 8 from rfl]
    by_cases q : cn + 1 < 8
    · rw [if_pos q, if_pos ((nI_ltI (by omega) (by omega)).mpr q)]
    · rw [if_neg q, if_neg (fun z => q ((nI_ltI (by omega) (by omega)).mp z))]]
  refine VP_3_2 fl_X2_26 dX2_keepNoted_25 hA ?_
  refine V_vret dX2_keepNoted_28 rfl (Nat.le_of_ble_eq_true rfl) (Nat.le_of_ble_eq_true rfl) ?_
  exact ⟨rfl, rfl⟩



set_option maxHeartbeats 4000000 in
set_option maxRecDepth 100000 in
theorem t_X7_settled_y {D : va_G} {s0 : State} {l : Launch} {B : Nat} {A : AT} {σ : Sg} (hA : AOK B A) (hl : l.stackTraces = false) {x : Int32} (h : ¬ x = -1) {nx : Nat} (hnx : σ.1 3 0 0 = nI nx) (hx9 : nx < 9) {cn : Nat} (hcn : σ.1 3 0 1 = nI cn) (hc8 : cn ≤ 8) : Tri D s0 l yX7_settled cX7_settled 2 ((some .int)) 1 1 6 [.ref (A 0 0 0), .int x] (HP A σ) (fun r G' => r = some (.int x) ∧ G' = HP A (kpN σ nx cn)) noX := by
  refine Tri.ofV (own := RX7) (mn := "settled") (by decide +kernel) rfl rfl (Nat.le_of_ble_eq_true rfl) ?_
  refine V_iload_n (i := 1) dX7_settled_0 rfl rfl ?_
  refine V_iconst (v := (-1)) dX7_settled_1 (by decide) ?_
  refine V_icmp_ne (tgt := 16) dX7_settled_2 (by decide) (fun _ => ?_) (fun h2 => by first | exact absurd (h) h2 | exact absurd h2 (h))
  refine V_aload_n (i := 0) dX7_settled_16 rfl rfl ?_
  refine V_getf fl_X7_31 dX7_settled_17 (hp0 hA) rfl ?_
  refine Cv0_0 (d := 1) cv_X7_223 dX7_settled_20 (t_X2_keepNoted hA hnx hx9 hcn hc8) (hp3 hA) rfl rfl (Nat.le_of_ble_eq_true rfl) ⟨Nat.le_refl _, Nat.le_refl _⟩ (by decide) ⟨Nat.le_of_ble_eq_true rfl, Nat.le_of_ble_eq_true rfl⟩ ?_
  refine V_iload_n (i := 1) dX7_settled_23 rfl rfl ?_
  refine V_iret dX7_settled_24 rfl (Nat.le_of_ble_eq_true rfl) (Nat.le_of_ble_eq_true rfl) ?_
  exact ⟨rfl, rfl⟩

set_option maxHeartbeats 4000000 in
set_option maxRecDepth 100000 in
theorem t_X7_settled_n {D : va_G} {s0 : State} {l : Launch} {B : Nat} {A : AT} {σ : Sg} (hA : AOK B A) (hl : l.stackTraces = false) : Tri D s0 l yX7_settled cX7_settled 2 ((some .int)) 1 1 6 [.ref (A 0 0 0), .int (-1)] (HP A σ) (fun _ _ => False) (fun E G' => E = "java/lang/UnsupportedOperationException" ∧ G' = HP A σ) := by
  refine Tri.ofV (own := RX7) (mn := "settled") (by decide +kernel) rfl rfl (Nat.le_of_ble_eq_true rfl) ?_
  refine V_iload_n (i := 1) dX7_settled_0 rfl rfl ?_
  refine V_iconst (v := (-1)) dX7_settled_1 (by decide) ?_
  refine V_icmp_ne (tgt := 16) dX7_settled_2 (by decide) (fun h2 => by first | exact absurd h2 (fun h => h rfl) | exact absurd (fun h => h rfl) h2) (fun _ => ?_)
  refine V_throwSW th_218 sr_313 hl dX7_settled_5 dX7_settled_8 dX7_settled_9 dX7_settled_12 dX7_settled_15 (Nat.le_of_ble_eq_true rfl) (Nat.le_of_ble_eq_true rfl) (Nat.le_of_ble_eq_true rfl) (Nat.le_of_ble_eq_true rfl) ?_
  exact ⟨rfl, rfl⟩
