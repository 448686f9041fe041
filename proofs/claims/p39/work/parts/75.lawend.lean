/-! THE CLAIM OUT OF ONE WALK OF THE LAW'S BODY. Your part is whole_start (and what it stands on); all else here is the same for every law, but numbers. -/
def lw_P (b : Addr) (xs : List Int32) (args : Array Value) (s : State) : Prop := args = #[.ref b] ∧ s.IntsAt b xs ∧ xs.length ≤ 260 ∧ (Jvm.Cond.and given_1 narrow_1).before args s = true
/-- what a walk over the start with the record d0 says of its end, said of the start itself -/
theorem lw_closed {s t : State} {o : Outcome} {d0 : Drawn} {L : List Loc} {k n : Nat} (hd0 : s.drawn.sameBut d0 lw_cs) (hv : ∃ v, o = .returned v) (hW : (s.setDrawn d0).WarmedH t.vm) (hs : (s.setDrawn d0).sameButNew ({ t with vm := s.vm } : State) L k n) : State.butDraws s t lw_cs (fun t1 => Framed s o t1 L k n) := by
  have h2 : t.drawn = d0 := congrArg State.drawn hs.1
  refine ⟨⟨hv, hW, State.sameButNew.setDrawn hs s.drawn⟩, ?_, by decide⟩
  rw [h2]
  exact hd0
def lw_Q (_ : Array Value) (s : State) (o : Outcome) (t : State) : Prop := o = .returned (some (.int 1)) ∧ State.butDraws s t lw_cs (fun t1 => Framed s o t1 [] 732766 6902883)
def lw_Z (below : List Frame) (a : Array Value) (s : State) : State → Prop := fun t => ∃ o, t.status = .running ∧ Ended t below o ∧ lw_Q a s o t
/-- the law's own end, with 1 on the stack, nothing written that was there before, its room as the claim has it; d0: the record of draws at this point (at the entry s.drawn: begin with 'refine W.base ?_' and 'have hd0 := Drawn.sameBut.refl s.drawn lw_cs') -/
theorem lw_ret {p : Program} {l : Launch} {e : Env} {s : State} {m : MethodId} {below : List Frame} {meth : Method} {c : Code} {b : Nat} {d0 : Drawn} (hd0 : s.drawn.sameBut d0 lw_cs) (hx : p.tables.exec = Jvm.exec) (hb : c.code = code) (hr : meth.sig.returnType = ret) (hlocks : meth.locks = false) {pc : Nat} {H : Heap} {ls : Array Slot} (hdg : decode code pc = .ok (.ireturn, 1)) : W p l e room_1 (s.setDrawn d0) m #[Value.ref b] below meth c H [] 732766 6902883 (lw_Z below #[Value.ref b] s) (F0 m pc ls [.int 1]) := by
  intro T hT X
  obtain ⟨fs, hret, hrun, hended, hW, hframe⟩ := X.leave (v := some (.int 1)) (hlocks := hlocks) (fun h => by rw [hr] at h; cases h)
  have hmeth' : T.vm.method? m = some meth := X.method'
  refine ⟨T.setFrames fs, ?_, .returned (some (.int 1)), hrun, hended, rfl, lw_closed hd0 ⟨_, rfl⟩ hW hframe⟩
  jvm_step X.here [X.here.top, hx, hb, hdg, hmeth', hr, ret, narrow_b1]
  (try refine ⟨rfl, ?_⟩); (try refine ⟨rfl, ?_⟩)
  first | (intro acts; rw [hret _ acts rfl rfl rfl]) | rw [hret _ _ rfl rfl rfl]
  exact Steps.refl _
/-- what holds at the law's entry: the machine, the code, the tables' words (any of lw_tbl by 'hts w (by decide +kernel)'), the script of L ints xs at the cell b, what the Statement gives of the start (any of its parts by flat_of_before) -/
def lw_At (p : Program) (s : State) (m : MethodId) (meth : Method) (c : Code) (b L : Nat) (xs : Nat → Int32) : Prop :=
  p.tables.exec = Jvm.exec ∧ c.code = code ∧ meth.sig.returnType = ret ∧ c.maxLocals = 10 ∧ s.vm.findClass R_law = some m.cls ∧ (∀ w ∈ lw_tbl, w.before #[Value.ref b] s = true) ∧ va_X b L xs s s.heap ∧ b < s.heap.size ∧ meth.locks = false ∧ (Jvm.Cond.and given_1 narrow_1).before #[Value.ref b] s = true
/-! the law from its entry to its end -/
theorem wt_tbl {w : Cond} (h : w ∈ WT) : w ∈ lw_tbl := (List.mem_filter.mp h).1
/-- the law's end, when it began at s0 with the argument b -/
def lwZ (s0 : State) (b : Nat) : ZT := fun below args s t => args = #[Value.ref b] ∧ s = s0 → lw_Z below #[Value.ref b] s t
theorem V_lwret {D : va_G} {s0 : State} {mn : String} {hh : List (Nat × Nat × Nat × Nat)} {l : Launch} {b : Nat} {lo : List (Nat × Value)} {G : GH} {cells slots : Nat} (hc : cells ≤ 732766) (hs : slots ≤ 6902883) : V D s0 RL mn cL_law 10 ret hh l room_1 (lwZ s0 b) 175 lo [.int 1] G cells slots := by
  intro p e s m args below meth c H locs ls C9 hS hE hl
  rcases Classical.em (args = #[Value.ref b] ∧ s = s0) with ⟨ha, hs0⟩ | ha
  · subst ha hs0
    refine va_forget (fun q hq => hS.2.2 q hq) ?_
    refine W.widen hc hs (W.base ?_)
    have k := lw_ret (p := p) (l := l) (e := e) (s := s) (m := m) (below := below) (meth := meth) (c := c) (b := b) (Drawn.sameBut.refl s.drawn lw_cs) C9.1 C9.2.1 C9.2.2.2.1 C9.2.2.2.2.2.2.1 (pc := 175) (H := H) (ls := ls) dL_law_175
    intro T hT X
    obtain ⟨t, x, y⟩ := k T hT X
    exact ⟨t, x, fun _ => y⟩
  · intro T hT X
    exact ⟨_, Steps.refl _, fun z => absurd z ha⟩
set_option maxHeartbeats 4000000 in
set_option maxRecDepth 100000 in
theorem law_V {D : va_G} {s0 : State} {mn : String} {hh : List (Nat × Nat × Nat × Nat)} {l : Launch} {b L : Nat} {xs : Nat → Int32} (hl : l.stackTraces = false) (hT : va_T .int b L (fun j => .int (xs j)) (bA s0) s0 s0.heap) (hL : L ≤ 260) : V D s0 RL mn cL_law 10 ret hh l room_1 (lwZ s0 b) 0 [(0, .ref b)] [] (fun _ => none) 0 0 := by
  refine law_start ⟨Nat.le_of_ble_eq_true rfl, Nat.le_of_ble_eq_true rfl⟩ (Nat.le_of_ble_eq_true rfl) (Nat.le_of_ble_eq_true rfl) (fun A f hA => ?_) (by decide)
  have loop : ∀ (n k : Nat) (σ : Sg) (nh nc : Nat), k + n = 30 → FK σ (20 + k) nh nc → 2 ≤ nh → 1 ≤ nc → V D s0 RL mn cL_law 10 ret hh l room_1 (lwZ s0 b) 15 [(0, .ref b), (1, .ref (A 0 0 0)), (2, .int (nI k))] [] (HP A σ) (300 + k) (4000 + 6 * k) := by
    intro n
    induction n with
    | zero =>
      intro k σ nh nc hk hF hh2 hc1
      obtain rfl : k = 30 := by omega
      refine V_iload_n (i := 2) dL_law_15 rfl rfl ?_
      refine V_bipush (v := (nI 30)) dL_law_16 (by decide) ?_
      refine V_icmp_ge (tgt := 174) dL_law_18 (by decide) (fun _ => ?_) (fun h18 => by first | exact absurd (nI_le (Nat.le_refl _) (by decide)) h18 | exact absurd h18 (nI_le (Nat.le_refl _) (by decide)))
      refine V_iconst (v := 1) dL_law_174 (by decide) ?_
      exact V_lwret (Nat.le_of_ble_eq_true rfl) (Nat.le_of_ble_eq_true rfl)
    | succ n ih =>
      intro k σ nh nc hk hF hh2 hc1
      obtain ⟨-, -, ⟨h1, hn⟩, -⟩ := id hF
      refine V_iload_n (i := 2) dL_law_15 rfl rfl ?_
      refine V_bipush (v := (nI 30)) dL_law_16 (by decide) ?_
      refine V_icmp_ge (tgt := 174) dL_law_18 (by decide) (fun h18 => by first | exact absurd h18 (nI_ge (by omega) (by decide)) | exact absurd (nI_ge (by omega) (by decide)) h18) (fun _ => ?_)
      refine V_aload_n (i := 1) dL_law_21 rfl rfl ?_
      refine V_bipush (v := (nI 9)) dL_law_22 (by decide) ?_
      refine Cv1_1 (d := 7) cv_L_38 dL_law_24 (v_X7_account hA h1 hn (q := 9) (by decide) (v := σ.1 5 0 6) rfl) (hp0 hA) rfl rfl (Nat.le_of_ble_eq_true rfl) ⟨Nat.le_of_ble_eq_true rfl, Nat.le_of_ble_eq_true rfl⟩ (by decide) ⟨by show _ ≤ 732766; omega, by show _ ≤ 6902883; omega⟩ ?_
      refine V_istore_n (i := 3) dL_law_27 rfl (by decide) ?_
      refine V_aload_n (i := 1) dL_law_28 rfl rfl ?_
      refine V_bipush (v := (nI 10)) dL_law_29 (by decide) ?_
      refine Cv1_1 (d := 7) cv_L_38 dL_law_31 (v_X7_account hA h1 hn (q := 10) (by decide) (v := σ.1 5 0 7) rfl) (hp0 hA) rfl rfl (Nat.le_of_ble_eq_true rfl) ⟨Nat.le_of_ble_eq_true rfl, Nat.le_of_ble_eq_true rfl⟩ (by decide) ⟨by show _ ≤ 732766; omega, by show _ ≤ 6902883; omega⟩ ?_
      refine V_istore (i := 4) dL_law_34 (by decide) ?_
      refine V_aload_n (i := 1) dL_law_36 rfl rfl ?_
      refine V_bipush (v := (nI 11)) dL_law_37 (by decide) ?_
      refine Cv1_1 (d := 7) cv_L_38 dL_law_39 (v_X7_account hA h1 hn (q := 11) (by decide) (v := σ.1 5 0 8) rfl) (hp0 hA) rfl rfl (Nat.le_of_ble_eq_true rfl) ⟨Nat.le_of_ble_eq_true rfl, Nat.le_of_ble_eq_true rfl⟩ (by decide) ⟨by show _ ≤ 732766; omega, by show _ ≤ 6902883; omega⟩ ?_
      refine V_istore (i := 5) dL_law_42 (by decide) ?_
      refine V_aload_n (i := 0) dL_law_44 rfl rfl ?_
      refine V_bipush (v := (nI 40)) dL_law_45 (by decide) ?_
      refine V_iconst (v := (nI 5)) dL_law_47 (by decide) ?_
      refine V_iload_n (i := 2) dL_law_48 rfl rfl ?_
      refine V_imul dL_law_49 ?_
      refine V_iadd dL_law_50 ?_
      refine V_bipush (v := (nI 24)) dL_law_51 (by decide) ?_
      refine V_callsE (d := 7) cs_L_15 dL_law_53 (t_L_pick hA hT hL (i := 40 + 5 * k) (by rw [pk_mul, nI_add]) (by omega) (rfl : nI 24 = nI 24) (by decide) (by decide)) rfl rfl (Nat.le_of_ble_eq_true rfl) ⟨Nat.le_of_ble_eq_true rfl, Nat.le_of_ble_eq_true rfl⟩ (by decide) ⟨by show _ ≤ 732766; omega, by show _ ≤ 6902883; omega⟩ (fun v9 h9 => ?_)
      obtain ⟨wt, hwt, rfl⟩ := h9
      refine V_istore (i := 6) dL_law_56 (by decide) ?_
      refine V_aload_n (i := 1) dL_law_58 rfl rfl ?_
      refine V_aload_n (i := 0) dL_law_59 rfl rfl ?_
      refine V_bipush (v := (nI 40)) dL_law_60 (by decide) ?_
      refine V_iconst (v := (nI 5)) dL_law_62 (by decide) ?_
      refine V_iload_n (i := 2) dL_law_63 rfl rfl ?_
      refine V_imul dL_law_64 ?_
      refine V_iadd dL_law_65 ?_
      refine V_iload (i := 6) dL_law_66 rfl ?_
      refine V_callsH (d := 7) csh_L_69 dL_law_68 (t_L_acts hA hl hT hL hF (by omega) (by omega) hc1 (i := 40 + 5 * k) (by rw [pk_mul, nI_add]) (by omega) hwt) rfl rfl (Nat.le_of_ble_eq_true rfl) ⟨Nat.le_of_ble_eq_true rfl, Nat.le_of_ble_eq_true rfl⟩ (by decide) ⟨by show _ ≤ 732766; omega, by show _ ≤ 6902883; omega⟩ (fun r G' h => ?_) (fun _ _ h => h.elim)
      obtain ⟨σ', v, nh', nc', rfl, rfl, ⟨hle1, hle2⟩, hF', hD⟩ := h
      obtain ⟨-, -, ⟨h1', hn'⟩, -⟩ := id hF'
      have chk : ∀ E : Int32, (σ.1 5 0 6 + σ'.1 5 0 7 - σ.1 5 0 7 - σ'.1 5 0 6) = E → V D s0 RL mn cL_law 10 ret hh l room_1 (lwZ s0 b) 137 [(0, .ref b), (1, .ref (A 0 0 0)), (2, .int (nI k))] [.int E, .int (σ.1 5 0 6 + σ'.1 5 0 7 - σ.1 5 0 7 - σ'.1 5 0 6)] (HP A σ') (300 + k + 0 + 0 + 0 + 0 + 1 + 0 + 0 + 0) (4000 + 6 * k + 0 + 0 + 0 + 0 + 6 + 0 + 0 + 0) := by
        intro E hE
        refine V_icmp_ne (tgt := 144) dL_law_137 (by decide) (fun h137 => by first | exact absurd h137 (fun z => z hE) | exact absurd (fun z => z hE) h137) (fun _ => ?_)
        refine V_iconst (v := (nI 1)) dL_law_140 (by decide) ?_
        refine V_goto (tgt := 145) dL_law_141 (by decide) ?_
        refine V_istore (i := 9) dL_law_145 (by decide) ?_
        refine V_iload (i := 9) dL_law_147 rfl ?_
        refine V_if_eq (tgt := 166) dL_law_149 (by decide) (fun h149 => by first | exact absurd h149 (by decide) | exact absurd (by decide) h149) (fun _ => ?_)
        refine V_aload_n (i := 1) dL_law_152 rfl rfl ?_
        refine Cs1_1 (d := 7) cs_L_119 dL_law_153 (t_L_areSacksRight hA hF' (by omega) (by omega)) (Nat.le_of_ble_eq_true rfl) ⟨Nat.le_of_ble_eq_true rfl, Nat.le_of_ble_eq_true rfl⟩ (by decide) ⟨by show _ ≤ 732766; omega, by show _ ≤ 6902883; omega⟩ ?_
        refine V_if_eq (tgt := 166) dL_law_156 (by decide) (fun h156 => by first | exact absurd h156 (by decide) | exact absurd (by decide) h156) (fun _ => ?_)
        refine V_aload_n (i := 1) dL_law_159 rfl rfl ?_
        refine Cs1_1 (d := 7) cs_L_123 dL_law_160 (t_L_areHousesRight hA hF' (by omega)) (Nat.le_of_ble_eq_true rfl) ⟨Nat.le_of_ble_eq_true rfl, Nat.le_of_ble_eq_true rfl⟩ (by decide) ⟨by show _ ≤ 732766; omega, by show _ ≤ 6902883; omega⟩ ?_
        refine V_if_ne (tgt := 168) dL_law_163 (by decide) (fun _ => ?_) (fun h163 => by first | exact absurd (by decide) h163 | exact absurd h163 (by decide))
        refine V_iinc (i := 2) dL_law_168 rfl (inc1 _) (by decide) ?_
        refine V_goto (tgt := 15) dL_law_171 (by decide) ?_
        refine V.fin [2, 3, 0] rfl rfl (V.wid (by omega) (by omega) (ih (k + 1) σ' nh' nc' (by omega) hF' (by omega) (by omega)))
      refine V_istore (i := 7) dL_law_71 (by decide) ?_
      refine V_iload_n (i := 3) dL_law_73 rfl rfl ?_
      refine V_aload_n (i := 1) dL_law_74 rfl rfl ?_
      refine V_bipush (v := (nI 10)) dL_law_75 (by decide) ?_
      refine Cv1_1 (d := 7) cv_L_38 dL_law_77 (v_X7_account hA h1' hn' (q := 10) (by decide) (v := σ'.1 5 0 7) rfl) (hp0 hA) rfl rfl (Nat.le_of_ble_eq_true rfl) ⟨Nat.le_of_ble_eq_true rfl, Nat.le_of_ble_eq_true rfl⟩ (by decide) ⟨by show _ ≤ 732766; omega, by show _ ≤ 6902883; omega⟩ ?_
      refine V_iadd dL_law_80 ?_
      refine V_iload (i := 4) dL_law_81 rfl ?_
      refine V_isub dL_law_83 ?_
      refine V_aload_n (i := 1) dL_law_84 rfl rfl ?_
      refine V_bipush (v := (nI 9)) dL_law_85 (by decide) ?_
      refine Cv1_1 (d := 7) cv_L_38 dL_law_87 (v_X7_account hA h1' hn' (q := 9) (by decide) (v := σ'.1 5 0 6) rfl) (hp0 hA) rfl rfl (Nat.le_of_ble_eq_true rfl) ⟨Nat.le_of_ble_eq_true rfl, Nat.le_of_ble_eq_true rfl⟩ (by decide) ⟨by show _ ≤ 732766; omega, by show _ ≤ 6902883; omega⟩ ?_
      refine V_isub dL_law_90 ?_
      refine V_istore (i := 8) dL_law_91 (by decide) ?_
      refine V_iload (i := 8) dL_law_93 rfl ?_
      refine V_iload (i := 7) dL_law_95 rfl ?_
      refine V_bipush (v := (-9)) dL_law_97 (by decide) ?_
      refine V_icmp_ne (tgt := 106) dL_law_99 (by decide) (fun h99 => ?_) (fun h99 => ?_)
      · refine V_iload (i := 6) dL_law_106 rfl ?_
        refine V_bipush (v := (nI 12)) dL_law_108 (by decide) ?_
        refine V_icmp_ne (tgt := 125) dL_law_110 (by decide) (fun h110 => ?_) (fun h110 => ?_)
        · refine V_iload (i := 6) dL_law_125 rfl ?_
          refine V_bipush (v := (nI 16)) dL_law_127 (by decide) ?_
          refine V_icmp_ne (tgt := 136) dL_law_129 (by decide) (fun h129 => ?_) (fun h129 => ?_)
          · refine V_iconst (v := (nI 0)) dL_law_136 (by decide) ?_
            refine V.wid (k := 300 + k + 0 + 0 + 0 + 0 + 1 + 0 + 0 + 0) (n := 4000 + 6 * k + 0 + 0 + 0 + 0 + 6 + 0 + 0 + 0) (by omega) (by omega) ?_
            refine V.fin [6, 7, 8] rfl rfl (chk _ (Eq.trans (show _ = _ from hD) ?_))
            first
              | (rw [if_pos h99]; rfl)
              | (rw [if_neg h99, spV, if_pos ((nI_eq (by omega) (by decide)).mp h110)])
              | (rw [if_neg h99, spV, if_neg (fun z => h110 (by rw [z])), if_pos ((nI_eq (by omega) (by decide)).mp h129)]; rfl)
              | (rw [if_neg h99, spV, if_neg (fun z => h110 (by rw [z])), if_neg (fun z => h129 (by rw [z]))]; rfl)
          · refine V_iconst (v := (nI 4)) dL_law_132 (by decide) ?_
            refine V_goto (tgt := 137) dL_law_133 (by decide) ?_
            refine V.wid (k := 300 + k + 0 + 0 + 0 + 0 + 1 + 0 + 0 + 0) (n := 4000 + 6 * k + 0 + 0 + 0 + 0 + 6 + 0 + 0 + 0) (by omega) (by omega) ?_
            refine V.fin [6, 7, 8] rfl rfl (chk _ (Eq.trans (show _ = _ from hD) ?_))
            first
              | (rw [if_pos h99]; rfl)
              | (rw [if_neg h99, spV, if_pos ((nI_eq (by omega) (by decide)).mp h110)])
              | (rw [if_neg h99, spV, if_neg (fun z => h110 (by rw [z])), if_pos ((nI_eq (by omega) (by decide)).mp h129)]; rfl)
              | (rw [if_neg h99, spV, if_neg (fun z => h110 (by rw [z])), if_neg (fun z => h129 (by rw [z]))]; rfl)
        · refine V_aload_n (i := 1) dL_law_113 rfl rfl ?_
          refine V_bipush (v := (nI 11)) dL_law_114 (by decide) ?_
          refine Cv1_1 (d := 7) cv_L_38 dL_law_116 (v_X7_account hA h1' hn' (q := 11) (by decide) (v := σ'.1 5 0 8) rfl) (hp0 hA) rfl rfl (Nat.le_of_ble_eq_true rfl) ⟨Nat.le_of_ble_eq_true rfl, Nat.le_of_ble_eq_true rfl⟩ (by decide) ⟨by show _ ≤ 732766; omega, by show _ ≤ 6902883; omega⟩ ?_
          refine V_iload (i := 5) dL_law_119 rfl ?_
          refine V_isub dL_law_121 ?_
          refine V_goto (tgt := 137) dL_law_122 (by decide) ?_
          refine V.wid (k := 300 + k + 0 + 0 + 0 + 0 + 1 + 0 + 0 + 0) (n := 4000 + 6 * k + 0 + 0 + 0 + 0 + 6 + 0 + 0 + 0) (by omega) (by omega) ?_
          refine V.fin [6, 7, 8] rfl rfl (chk _ (Eq.trans (show _ = _ from hD) ?_))
          first
            | (rw [if_pos h99]; rfl)
            | (rw [if_neg h99, spV, if_pos ((nI_eq (by omega) (by decide)).mp h110)])
            | (rw [if_neg h99, spV, if_neg (fun z => h110 (by rw [z])), if_pos ((nI_eq (by omega) (by decide)).mp h129)]; rfl)
            | (rw [if_neg h99, spV, if_neg (fun z => h110 (by rw [z])), if_neg (fun z => h129 (by rw [z]))]; rfl)
      · refine V_iconst (v := (nI 0)) dL_law_102 (by decide) ?_
        refine V_goto (tgt := 137) dL_law_103 (by decide) ?_
        refine V.wid (k := 300 + k + 0 + 0 + 0 + 0 + 1 + 0 + 0 + 0) (n := 4000 + 6 * k + 0 + 0 + 0 + 0 + 6 + 0 + 0 + 0) (by omega) (by omega) ?_
        refine V.fin [6, 7, 8] rfl rfl (chk _ (Eq.trans (show _ = _ from hD) ?_))
        first
          | (rw [if_pos h99]; rfl)
          | (rw [if_neg h99, spV, if_pos ((nI_eq (by omega) (by decide)).mp h110)])
          | (rw [if_neg h99, spV, if_neg (fun z => h110 (by rw [z])), if_pos ((nI_eq (by omega) (by decide)).mp h129)]; rfl)
          | (rw [if_neg h99, spV, if_neg (fun z => h110 (by rw [z])), if_neg (fun z => h129 (by rw [z]))]; rfl)
  refine V_aload_n (i := 1) dL_law_8 rfl rfl ?_
  refine V_aload_n (i := 0) dL_law_9 rfl rfl ?_
  refine V_calls (d := 7) cs_L_115 dL_law_10 (t_L_lay hA hl hT hL FK_0 Lw_0) rfl rfl (Nat.le_of_ble_eq_true rfl) ⟨Nat.le_of_ble_eq_true rfl, Nat.le_of_ble_eq_true rfl⟩ (by decide) ⟨(Nat.le_of_ble_eq_true rfl), (Nat.le_of_ble_eq_true rfl)⟩ (fun r G' h => ?_) (fun _ _ h => h.elim)
  obtain ⟨rfl, σ, nh, nc, rfl, hF, hh2, hc1⟩ := h
  refine V_iconst (v := nI 0) dL_law_13 (by decide) ?_
  refine V_istore_n (i := 2) dL_law_14 rfl (by decide) ?_
  exact V.fin [1, 2, 0] rfl rfl (V.wid (by decide) (by decide) (loop 30 0 σ nh nc (by omega) hF hh2 hc1))
theorem whole_start {p : Program} {e : Env} {s : State} {m : MethodId} {below : List Frame} {meth : Method} {c : Code} (l : Launch) (hflags : l.flags = flags0) {b L : Nat} {xs : Nat → Int32} (hL : L ≤ 260) (C0 : lw_At p s m meth c b L xs) : W p l e room_1 s m #[Value.ref b] below meth c s.heap [] 0 0 (lw_Z below #[Value.ref b] s) (entryFrame m ([Value.ref b] : List Value).toArray 10) := by
  obtain ⟨hx, hb, hr, hml, hown, hts, hX, hbl, hlocks, hgv⟩ := id C0
  have hl : l.stackTraces = false := by
    unfold Launch.stackTraces
    rw [hflags]
    decide
  obtain ⟨c0, iS0, hKn0⟩ := u_known (C := RX0) (T := TX0) (N := 4) (n := 4) hts (fun w hw => wt_tbl (uw_X0 w hw)) (hts _ (wt_tbl ib_X0))
  obtain ⟨c1, iS1, hKn1⟩ := u_known (C := RX1) (T := TX1) (N := 8) (n := 8) hts (fun w hw => wt_tbl (uw_X1 w hw)) (hts _ (wt_tbl ib_X1))
  obtain ⟨c2, iS2, hKn2⟩ := u_known (C := RX2) (T := TX2) (N := 3) (n := 3) hts (fun w hw => wt_tbl (uw_X2 w hw)) (hts _ (wt_tbl ib_X2))
  obtain ⟨c3, iS3, hKn3⟩ := u_known (C := RX3) (T := TX3) (N := 9) (n := 9) hts (fun w hw => wt_tbl (uw_X3 w hw)) (hts _ (wt_tbl ib_X3))
  obtain ⟨c4, iS4, hKn4⟩ := u_known (C := RX4) (T := TX4) (N := 3) (n := 3) hts (fun w hw => wt_tbl (uw_X4 w hw)) (hts _ (wt_tbl ib_X4))
  obtain ⟨c5, iS5, hKn5⟩ := u_known (C := RX5) (T := TX5) (N := 13) (n := 13) hts (fun w hw => wt_tbl (uw_X5 w hw)) (hts _ (wt_tbl ib_X5))
  obtain ⟨c6, iS6, hKn6⟩ := u_known (C := RX6) (T := TX6) (N := 2) (n := 2) hts (fun w hw => wt_tbl (uw_X6 w hw)) (hts _ (wt_tbl ib_X6))
  obtain ⟨c7, iS7, hKn7⟩ := u_known (C := RX7) (T := TX7) (N := 9) (n := 9) hts (fun w hw => wt_tbl (uw_X7 w hw)) (hts _ (wt_tbl is_X7))
  obtain ⟨c8, iS8, hKn8⟩ := u_known (C := RJ4) (T := TJ4) (N := 4) (n := 4) hts (fun w hw => wt_tbl (uw_J4 w hw)) (hts _ (wt_tbl ib_J4))
  obtain ⟨dC, dI, hKc⟩ : ∃ (dC : Nat → ClassId) (dI : Nat → Nat → Nat), ∀ (k : Nat) (q : vw_C), cls9[k]? = some q → u_Kn s q.1 q.2.1 q.2.2 (dC k) (dI k) := by
    refine ⟨fun k => if k = 0 then c0 else if k = 1 then c1 else if k = 2 then c2 else if k = 3 then c3 else if k = 4 then c4 else if k = 5 then c5 else if k = 6 then c6 else if k = 7 then c7 else c8, fun k => if k = 0 then iS0 else if k = 1 then iS1 else if k = 2 then iS2 else if k = 3 then iS3 else if k = 4 then iS4 else if k = 5 then iS5 else if k = 6 then iS6 else if k = 7 then iS7 else iS8, ?_⟩
    intro k q hq
    match k, hq with
    | 0, hq => cases hq; exact hKn0
    | 1, hq => cases hq; exact hKn1
    | 2, hq => cases hq; exact hKn2
    | 3, hq => cases hq; exact hKn3
    | 4, hq => cases hq; exact hKn4
    | 5, hq => cases hq; exact hKn5
    | 6, hq => cases hq; exact hKn6
    | 7, hq => cases hq; exact hKn7
    | 8, hq => cases hq; exact hKn8
    | k + 9, hq => simp [cls9] at hq
  have hT : va_T .int b L (fun j => .int (xs j)) (bA s) s s.heap := by
    obtain ⟨scr, g1, g2, g3, g4, g5⟩ := hX
    exact ⟨scr, g1, g2, g3, Nat.le_of_eq g4.symm, by rw [g4], g5, Nat.not_le.mpr hbl⟩
  have hF : Fr s s s.heap := ⟨⟨b, hts, hgv⟩, State.WarmedH.refl s, Nat.le_refl _, fun q _ => rfl⟩
  have hl9 := lv_entry ([.ref b]) (n := 10) (Nat.le_of_ble_eq_true rfl)
  rw [lg_entry_eq]
  have K := law_V (D := (dC, dI)) (s0 := s) (mn := meth.name) (hh := c.exceptionTable.toList.map (fun r => (r.startPc, r.endPc, r.handlerPc, r.catchType))) (l := l) hl hT hL p e s m #[Value.ref b] below meth c s.heap [] _ ⟨hx, hb, hml, hr, hown, fun w hw => hts w (wt_tbl hw), hlocks, rfl, by simp [tableOf, List.map_map, Function.comp_def], hF, ⟨hKc, fun k q h => by simp at h⟩⟩ va_S.rf (fun a c9 h => by cases h) hl9
  intro T hT9 X
  obtain ⟨t, x, y⟩ := K T hT9 X
  exact ⟨t, x, y ⟨rfl, rfl⟩⟩
