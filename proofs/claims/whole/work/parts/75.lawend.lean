/-! THE CLAIM OUT OF ONE WALK OF THE LAW'S BODY. Your part is whole_start (and what it stands on); all else here is the same for every law, but numbers. -/
def lw_P (b : Addr) (xs : List Int32) (args : Array Value) (s : State) : Prop := args = #[.ref b] ∧ s.IntsAt b xs ∧ xs.length ≤ 1536 ∧ (Jvm.Cond.and given_1 narrow_1).before args s = true
/-- what a walk over the start with the record d0 says of its end, said of the start itself -/
theorem lw_closed {s t : State} {o : Outcome} {d0 : Drawn} {L : List Loc} {k n : Nat} (hd0 : s.drawn.sameBut d0 lw_cs) (hv : ∃ v, o = .returned v) (hW : (s.setDrawn d0).WarmedH t.vm) (hs : (s.setDrawn d0).sameButNew ({ t with vm := s.vm } : State) L k n) : State.butDraws s t lw_cs (fun t1 => Framed s o t1 L k n) := by
  have h2 : t.drawn = d0 := congrArg State.drawn hs.1
  refine ⟨⟨hv, hW, State.sameButNew.setDrawn hs s.drawn⟩, ?_, by decide⟩
  rw [h2]
  exact hd0
def lw_Q (_ : Array Value) (s : State) (o : Outcome) (t : State) : Prop := o = .returned (some (.int 1)) ∧ State.butDraws s t lw_cs (fun t1 => Framed s o t1 [] 603072 7198826)
def lw_Z (below : List Frame) (a : Array Value) (s : State) : State → Prop := fun t => ∃ o, t.status = .running ∧ Ended t below o ∧ lw_Q a s o t
/-- the law's own end, with 1 on the stack, nothing written that was there before, its room as the claim has it; d0: the record of draws at this point (at the entry s.drawn: begin with 'refine W.base ?_' and 'have hd0 := Drawn.sameBut.refl s.drawn lw_cs') -/
theorem lw_ret {p : Program} {l : Launch} {e : Env} {s : State} {m : MethodId} {below : List Frame} {meth : Method} {c : Code} {b : Nat} {d0 : Drawn} (hd0 : s.drawn.sameBut d0 lw_cs) (hx : p.tables.exec = Jvm.exec) (hb : c.code = code) (hr : meth.sig.returnType = ret) (hlocks : meth.locks = false) {pc : Nat} {H : Heap} {ls : Array Slot} (hdg : decode code pc = .ok (.ireturn, 1)) : W p l e room_1 (s.setDrawn d0) m #[Value.ref b] below meth c H [] 603072 7198826 (lw_Z below #[Value.ref b] s) (F0 m pc ls [.int 1]) := by
  intro T hT X
  obtain ⟨fs, hret, hrun, hended, hW, hframe⟩ := X.leave (v := some (.int 1)) (hlocks := hlocks) (fun h => by rw [hr] at h; cases h)
  have hmeth' : T.vm.method? m = some meth := X.method'
  refine ⟨T.setFrames fs, ?_, .returned (some (.int 1)), hrun, hended, rfl, lw_closed hd0 ⟨_, rfl⟩ hW hframe⟩
  jvm_step X.here [X.here.top, hx, hb, hdg, hmeth', hr, ret, narrow_b1]
  (try refine ⟨rfl, ?_⟩); (try refine ⟨rfl, ?_⟩)
  first | (intro acts; rw [hret _ acts rfl rfl rfl]) | rw [hret _ _ rfl rfl rfl]
  exact Steps.refl _
/-- what holds at the law's entry: the machine, the code, the tables' words (any of lw_tbl by 'hts w (by decide +kernel)'), the script of L ints xs at the cell b, what the Statement gives of the start (any of its parts by flat_of_before) -/
def lw_At (p : Program) (s : State) (m : MethodId) (meth : Method) (c : Code) (b L : Nat) (xs : Nat → Int32) : Prop :=
  p.tables.exec = Jvm.exec ∧ c.code = code ∧ meth.sig.returnType = ret ∧ c.maxLocals = 9 ∧ s.vm.findClass R_law = some m.cls ∧ (∀ w ∈ lw_tbl, w.before #[Value.ref b] s = true) ∧ va_X b L xs s s.heap ∧ b < s.heap.size ∧ meth.locks = false ∧ (Jvm.Cond.and given_1 narrow_1).before #[Value.ref b] s = true
/-! the law from its entry to its end -/
theorem wt_tbl {w : Cond} (h : w ∈ WT) : w ∈ lw_tbl := (List.mem_filter.mp h).1
/-- the law's end, when it began at s0 with the argument b -/
def lwZ (s0 : State) (b : Nat) : ZT := fun below args s t => args = #[Value.ref b] ∧ s = s0 → lw_Z below #[Value.ref b] s t
theorem V_lwret {D : va_G} {s0 : State} {mn : String} {hh : List (Nat × Nat × Nat × Nat)} {l : Launch} {b : Nat} {lo : List (Nat × Value)} {G : GH} {cells slots : Nat} (hc : cells ≤ 603072) (hs : slots ≤ 7198826) : V D s0 RL mn cL_law 9 ret hh l room_1 (lwZ s0 b) 2088 lo [.int 1] G cells slots := by
  intro p e s m args below meth c H locs ls C9 hS hE hl
  rcases Classical.em (args = #[Value.ref b] ∧ s = s0) with ⟨ha, hs0⟩ | ha
  · subst ha hs0
    refine va_forget (fun q hq => hS.2.2 q hq) ?_
    refine W.widen hc hs (W.base ?_)
    have k := lw_ret (p := p) (l := l) (e := e) (s := s) (m := m) (below := below) (meth := meth) (c := c) (b := b) (Drawn.sameBut.refl s.drawn lw_cs) C9.1 C9.2.1 C9.2.2.2.1 C9.2.2.2.2.2.2.1 (pc := 2088) (H := H) (ls := ls) dL_law_2088
    intro T hT X
    obtain ⟨t, x, y⟩ := k T hT X
    exact ⟨t, x, fun _ => y⟩
  · intro T hT X
    exact ⟨_, Steps.refl _, fun z => absurd z ha⟩
set_option maxHeartbeats 4000000 in
theorem law_V {D : va_G} {s0 : State} {mn : String} {hh : List (Nat × Nat × Nat × Nat)} {l : Launch} {b L : Nat} {xs : Nat → Int32} (hl : l.stackTraces = false) (hT : va_T .int b L (fun j => .int (xs j)) (bA s0) s0 s0.heap) (hL : L ≤ 1536) : V D s0 RL mn cL_law 9 ret hh l room_1 (lwZ s0 b) 0 [(0, .ref b)] [] (fun _ => none) 0 0 := by
  refine law_start (Nat.le_of_ble_eq_true rfl) (Nat.le_of_ble_eq_true rfl) (Nat.le_of_ble_eq_true rfl) (Nat.le_of_ble_eq_true rfl) (fun A f hA hn => ?_) (by decide)
  refine V_iconst (v := nI 0) dL_law_25 (by decide) ?_
  refine V_istore (i := 5) dL_law_26 (by decide) ?_
  refine V.fin [0, 1, 2, 3, 4, 5] rfl rfl (law_loop (R := room_1) (nL := 9) (n := 512) (m := 0) hl hA hT hL (by decide) ⟨Nat.le_of_ble_eq_true rfl, Nat.le_of_ble_eq_true rfl⟩ (Nat.le_of_ble_eq_true rfl) (Nat.le_of_ble_eq_true rfl) (fun σ lo => ?_) _ (by omega) (by omega) (IV_0 hn))
  refine V_iconst (v := 1) dL_law_2087 (by decide) ?_
  exact V_lwret (Nat.le_of_ble_eq_true rfl) (Nat.le_of_ble_eq_true rfl)
theorem whole_start {p : Program} {e : Env} {s : State} {m : MethodId} {below : List Frame} {meth : Method} {c : Code} (l : Launch) (hflags : l.flags = flags0) {b L : Nat} {xs : Nat → Int32} (hL : L ≤ 1536) (C0 : lw_At p s m meth c b L xs) : W p l e room_1 s m #[Value.ref b] below meth c s.heap [] 0 0 (lw_Z below #[Value.ref b] s) (entryFrame m ([Value.ref b] : List Value).toArray 9) := by
  obtain ⟨hx, hb, hr, hml, hown, hts, hX, hbl, hlocks, hgv⟩ := id C0
  have hl : l.stackTraces = false := by
    unfold Launch.stackTraces
    rw [hflags]
    decide
  obtain ⟨c0, iS0, hKn0⟩ := u_known (C := RX0) (T := TX0) (N := 4) (n := 4) hts (fun w hw => wt_tbl (uw_X0 w hw)) (hts _ (wt_tbl ib_X0))
  obtain ⟨c1, iS1, hKn1⟩ := u_known (C := RX1) (T := TX1) (N := 8) (n := 8) hts (fun w hw => wt_tbl (uw_X1 w hw)) (hts _ (wt_tbl ib_X1))
  obtain ⟨c2, iS2, hKn2⟩ := u_known (C := RX2) (T := TX2) (N := 3) (n := 3) hts (fun w hw => wt_tbl (uw_X2 w hw)) (hts _ (wt_tbl ib_X2))
  obtain ⟨c3, iS3, hKn3⟩ := u_known (C := RX3) (T := TX3) (N := 9) (n := 9) hts (fun w hw => wt_tbl (uw_X3 w hw)) (hts _ (wt_tbl ib_X3))
  obtain ⟨c4, iS4, hKn4⟩ := u_known (C := RX4) (T := TX4) (N := 3) (n := 3) hts (fun w hw => wt_tbl (uw_X4 w hw)) (hts _ (wt_tbl ib_X4))
  obtain ⟨c5, iS5, hKn5⟩ := u_known (C := RX5) (T := TX5) (N := 13) (n := 13) hts (fun w hw => wt_tbl (uw_X5 w hw)) (hts _ (wt_tbl ib_X5))
  obtain ⟨c6, iS6, hKn6⟩ := u_known (C := RX6) (T := TX6) (N := 2) (n := 2) hts (fun w hw => wt_tbl (uw_X6 w hw)) (hts _ (wt_tbl ib_X6))
  obtain ⟨c7, iS7, hKn7⟩ := u_known (C := RX7) (T := TX7) (N := 9) (n := 9) hts (fun w hw => wt_tbl (uw_X7 w hw)) (hts _ (wt_tbl ib_X7))
  obtain ⟨c8, iS8, hKn8⟩ := u_known (C := RX8) (T := TX8) (N := 23) (n := 23) hts (fun w hw => wt_tbl (uw_X8 w hw)) (hts _ (wt_tbl ib_X8))
  obtain ⟨c9, iS9, hKn9⟩ := u_known (C := RJ4) (T := TJ4) (N := 4) (n := 4) hts (fun w hw => wt_tbl (uw_J4 w hw)) (hts _ (wt_tbl ib_J4))
  obtain ⟨dC, dI, hKc⟩ : ∃ (dC : Nat → ClassId) (dI : Nat → Nat → Nat), ∀ (k : Nat) (q : vw_C), cls9[k]? = some q → u_Kn s q.1 q.2.1 q.2.2 (dC k) (dI k) := by
    refine ⟨fun k => if k = 0 then c0 else if k = 1 then c1 else if k = 2 then c2 else if k = 3 then c3 else if k = 4 then c4 else if k = 5 then c5 else if k = 6 then c6 else if k = 7 then c7 else if k = 8 then c8 else c9, fun k => if k = 0 then iS0 else if k = 1 then iS1 else if k = 2 then iS2 else if k = 3 then iS3 else if k = 4 then iS4 else if k = 5 then iS5 else if k = 6 then iS6 else if k = 7 then iS7 else if k = 8 then iS8 else iS9, ?_⟩
    intro k q hq
    match k, hq with
    | 0, hq => cases hq; exact hKn0
    | 1, hq => cases hq; exact hKn1
    | 2, hq => cases hq; exact hKn2
    | 3, hq => cases hq; exact hKn3
    | 4, hq => cases hq; exact hKn4
    | 5, hq => cases hq; exact hKn5
    | 6, hq => cases hq; exact hKn6
    | 7, hq => cases hq; exact hKn7
    | 8, hq => cases hq; exact hKn8
    | 9, hq => cases hq; exact hKn9
    | k + 10, hq => simp [cls9] at hq
  have hT : va_T .int b L (fun j => .int (xs j)) (bA s) s s.heap := by
    obtain ⟨scr, g1, g2, g3, g4, g5⟩ := hX
    exact ⟨scr, g1, g2, g3, Nat.le_of_eq g4.symm, by rw [g4], g5, Nat.not_le.mpr hbl⟩
  have hF : Fr s s s.heap := ⟨⟨b, hts, hgv⟩, State.WarmedH.refl s, Nat.le_refl _, fun q _ => rfl⟩
  have hl9 := lv_entry ([.ref b]) (n := 9) (Nat.le_of_ble_eq_true rfl)
  rw [lg_entry_eq]
  have K := law_V (D := (dC, dI)) (s0 := s) (mn := meth.name) (hh := c.exceptionTable.toList.map (fun r => (r.startPc, r.endPc, r.handlerPc, r.catchType))) (l := l) hl hT hL p e s m #[Value.ref b] below meth c s.heap [] _ ⟨hx, hb, hml, hr, hown, fun w hw => hts w (wt_tbl hw), hlocks, rfl, by simp [tableOf, List.map_map, Function.comp_def], hF, ⟨hKc, fun k q h => by simp at h⟩⟩ va_S.rf (fun a c9 h => by cases h) hl9
  intro T hT9 X
  obtain ⟨t, x, y⟩ := K T hT9 X
  exact ⟨t, x, y ⟨rfl, rfl⟩⟩
