/-! the law: a deed that may be refused -/
def CSH (own : String) (index : Nat) (y : MethodName) (cc' : ByteArray) (nL' : Nat) (ret' : Option FieldType) (hh' : List (Nat × Nat × Nat × Nat)) (n : Nat) : Prop := GoodIn WT (va_wsS own index y (.codeWith y cc' nL' ret' hh' :: WT)) ∧ (y.cls ≠ "java/lang/invoke/MethodHandle" ∧ y.cls ≠ "java/lang/invoke/VarHandle" ∧ (parseMethodDescriptor y.desc).map (fun d => d.parameters.length) = some n) ∧ nL' ≤ 16
theorem V_callsH {D : va_G} {s0 : State} {own mn : String} {cc : ByteArray} {nL : Nat} {ret : Option FieldType} {hh : List (Nat × Nat × Nat × Nat)} {l : Launch} {R : Room} {Z : ZT} {pc : Nat} {lo : List (Nat × Value)} {st : List Value} {G : GH} {cells slots : Nat} {index d d' mc' ms' n nL' : Nat} {y : MethodName} {cc' : ByteArray} {ret' : Option FieldType} {hh' : List (Nat × Nat × Nat × Nat)} {as : List Value} {Post : Option Value → GH → Prop} {PX : String → GH → Prop} {st0 : List Value} (hC : CSH own index y cc' nL' ret' hh' n) (hdg : decode cc pc = .ok (.invokestatic index, 3)) (hM : TriH D s0 l y cc' nL' ret' hh' d' mc' ms' as G Post PX) (hn : as.length = n) (hst : st0 = as.reverse ++ st) (hW : (st.map fun v => v.category).sum ≤ 8) (hR : d + 5 ≤ R.frames ∧ 35 * d + 120 ≤ R.locals) (hd : d' < d) (hf : cells + mc' ≤ R.cells ∧ slots + ms' ≤ R.slots)
    (kk : ∀ (rv : Option Value) (G' : GH), Post rv G' → V D s0 own mn cc nL ret hh l R Z (pc + 3) lo (rv.toList ++ st) G' (cells + mc') (slots + ms')) (kx : ∀ (E : String) (G' : GH), PX E G' → VX D s0 own mn cc nL ret hh l R Z pc lo st E G' (cells + mc') (slots + ms')) : V D s0 own mn cc nL ret hh l R Z pc lo st0 G cells slots := by
  intro p e s m args below meth c H locs ls C9 hS hE hl
  subst hst
  obtain ⟨hG, hy, hn3⟩ := hC
  exact V_run C9 hS hl (vx_runSX (Ts := WT) (hh := hh') ⟨C9.1, C9.2.1, C9.2.2.1, C9.2.2.2.2.1, C9.2.2.2.2.2.1⟩ hM (vx_cwSW n C9.2.2.2.2.2.1 hG rfl rfl rfl hy (rm_ok hR hd hn3)) (pre_S C9 hS hE) rfl hn hl.1 rfl (by simpa [JFrame.monitorRoom] using hW) hdg hf) kk kx
theorem csh_L_69 : CSH RL 69 yL_acts cL_acts 5 (some .int) [(0, 7, 8, 67)] 4 := ⟨csw_L_69, ⟨by decide +kernel, by decide +kernel, by decide +kernel⟩, by decide⟩
def AY (A : AT) (σ : Sg) (m nh nc wt : Nat) : Option Value → GH → Prop := fun r G' => ∃ (σ' : Sg) (v : Int32) (nh' nc' : Nat), r = some (.int v) ∧ G' = HP A σ' ∧ (nh ≤ nh' ∧ nc ≤ nc') ∧ FK σ' (m + 1) nh' nc' ∧ DL (σ.1 5 0) (σ'.1 5 0) (if v = -9 then 0 else spV wt (σ.1 5 0) (σ'.1 5 0))
theorem nI_n9 {k : Nat} (hk : k < 100000) : ¬ nI k = -9 := fun q => by
  have e0 : ¬ nI k < 0 := by
    rw [show (0 : Int32) = nI 0 from rfl, nI_ltI (by omega) (by omega)]
    omega
  rw [q] at e0
  exact e0 (by decide)
set_option maxHeartbeats 4000000 in
set_option maxRecDepth 100000 in
theorem t_L_acts {D : va_G} {s0 : State} {l : Launch} {B : Nat} {A : AT} {σ : Sg} (hA : AOK B A) (hl : l.stackTraces = false) {b L : Nat} {xs : Nat → Int32} (hT : va_T .int b L (fun j => .int (xs j)) (bA s0) s0 s0.heap) (hL : L ≤ 260) {m nh nc : Nat} (hF : FK σ m nh nc) (hm : m ≤ 1000) (hh1 : 1 ≤ nh) (hc1 : 1 ≤ nc) {xi : Int32} {i wt : Nat} (hi : xi = nI i) (hi9 : i < 900) (hw : wt < 24) : TriH D s0 l yL_acts cL_acts 5 (some .int) [(0, 7, 8, 67)] 6 1 6 [.ref (A 0 0 0), .ref b, .int xi, .int (nI wt)] (HP A σ) (AY A σ m nh nc wt) noX := by
  refine TriH.ofV (own := RL) (mn := "acts") (by decide +kernel) rfl rfl (Nat.le_of_ble_eq_true rfl) ?_
  refine V_aload_n (i := 0) dL_acts_0 rfl rfl ?_
  refine V_aload_n (i := 1) dL_acts_1 rfl rfl ?_
  refine V_iload_n (i := 2) dL_acts_2 rfl rfl ?_
  refine V_iload_n (i := 3) dL_acts_3 rfl rfl ?_
  refine V_calls (d := 6) cs_L_63 dL_acts_4 (t_L_done hA hl hT hL hF hm hh1 hc1 hi hi9 hw) rfl rfl (Nat.le_of_ble_eq_true rfl) ⟨Nat.le_refl _, Nat.le_refl _⟩ (by decide) ⟨(Nat.le_of_ble_eq_true rfl), (Nat.le_of_ble_eq_true rfl)⟩ (fun r G' h => ?_) (fun E G' h => ?_)
  · obtain ⟨σ', k, nh', nc', rfl, hk, rfl, hle, hF', hD⟩ := h
    refine V_iret dL_acts_7 rfl (Nat.le_of_ble_eq_true rfl) (Nat.le_of_ble_eq_true rfl) ?_
    exact ⟨σ', nI k, nh', nc', rfl, rfl, hle, hF', by rw [if_neg (nI_n9 hk)]; exact hD⟩
  · obtain ⟨rfl, σ', rfl, hF', e⟩ := h
    refine VX_catch (pre := []) (x := (0, 7, 8, 67)) (suf := []) rfl (fun z hz => by cases hz) (by decide) (by decide) kl_67 kc_67 (fun q => ?_)
    refine V_astore (i := 4) dL_acts_8 (by decide) ?_
    refine V_bipush (v := -9) dL_acts_10 (by decide) ?_
    refine V_iret dL_acts_12 rfl (Nat.le_of_ble_eq_true rfl) (Nat.le_of_ble_eq_true rfl) ?_
    refine ⟨σ', -9, nh, nc, rfl, rfl, ⟨Nat.le_refl _, Nat.le_refl _⟩, ⟨hF'.1, hF'.2.mono (Nat.le_succ m)⟩, ?_⟩
    rw [if_pos rfl, e]
    exact DL.n hF.2.2.2.2.2 rfl rfl
