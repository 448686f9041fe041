/-! the law: calls of its wrappers -/
def CSH (own : String) (index : Nat) (y : MethodName) (cc' : ByteArray) (nL' : Nat) (ret' : Option FieldType) (hh' : List (Nat × Nat × Nat × Nat)) (n : Nat) : Prop := GoodIn WT (va_wsS own index y (.codeWith y cc' nL' ret' hh' :: WT)) ∧ (y.cls ≠ "java/lang/invoke/MethodHandle" ∧ y.cls ≠ "java/lang/invoke/VarHandle" ∧ (parseMethodDescriptor y.desc).map (fun d => d.parameters.length) = some n) ∧ nL' ≤ 300
theorem V_callsH {D : va_G} {s0 : State} {own mn : String} {cc : ByteArray} {nL : Nat} {ret : Option FieldType} {hh : List (Nat × Nat × Nat × Nat)} {l : Launch} {R : Room} {Z : ZT} {pc : Nat} {lo : List (Nat × Value)} {st : List Value} {G : GH} {cells slots : Nat} {index d d' mc' ms' n nL' : Nat} {y : MethodName} {cc' : ByteArray} {ret' : Option FieldType} {hh' : List (Nat × Nat × Nat × Nat)} {as : List Value} {Post : Option Value → GH → Prop} {PX : String → GH → Prop} {st0 : List Value} (hC : CSH own index y cc' nL' ret' hh' n) (hdg : decode cc pc = .ok (.invokestatic index, 3)) (hM : TriH D s0 l y cc' nL' ret' hh' d' mc' ms' as G Post PX) (hn : as.length = n) (hst : st0 = as.reverse ++ st) (hW : (st.map fun v => v.category).sum ≤ 8) (hR : 16 * (d + 1) ≤ R.frames ∧ 400 * (d + 1) ≤ R.locals) (hd : d' < d) (hf : cells + mc' ≤ R.cells ∧ slots + ms' ≤ R.slots)
    (kk : ∀ (rv : Option Value) (G' : GH), Post rv G' → V D s0 own mn cc nL ret hh l R Z (pc + 3) lo (rv.toList ++ st) G' (cells + mc') (slots + ms')) (kx : ∀ (E : String) (G' : GH), PX E G' → VX D s0 own mn cc nL ret hh l R Z pc lo st E G' (cells + mc') (slots + ms')) : V D s0 own mn cc nL ret hh l R Z pc lo st0 G cells slots := by
  intro p e s m args below meth c H locs ls C9 hS hE hl
  subst hst
  obtain ⟨hG, hy, hn3⟩ := hC
  exact V_run C9 hS hl (vx_runSX (Ts := WT) (hh := hh') ⟨C9.1, C9.2.1, C9.2.2.1, C9.2.2.2.2.1, C9.2.2.2.2.2.1⟩ hM (vx_cwSW n C9.2.2.2.2.2.1 hG rfl rfl rfl hy (rm_ok hR hd hn3)) (pre_S C9 hS hE) rfl hn hl.1 rfl (by simpa [JFrame.monitorRoom] using hW) hdg hf) kk kx
theorem csh_L_126 : CSH RL 126 yL_house cL_house 5 (some .int) [(0, 10, 13, 13)] 4 := ⟨csw_L_126, ⟨by decide +kernel, by decide +kernel, by decide +kernel⟩, by decide⟩
theorem csh_L_135 : CSH RL 135 yL_order cL_order 5 (some .int) [(0, 10, 13, 13)] 4 := ⟨csw_L_135, ⟨by decide +kernel, by decide +kernel, by decide +kernel⟩, by decide⟩
theorem csh_L_138 : CSH RL 138 yL_carrier cL_carrier 4 (some .int) [(0, 9, 12, 13)] 3 := ⟨csw_L_138, ⟨by decide +kernel, by decide +kernel, by decide +kernel⟩, by decide⟩
theorem csh_L_142 : CSH RL 142 yL_load cL_load 4 (some .int) [(0, 9, 12, 13)] 3 := ⟨csw_L_142, ⟨by decide +kernel, by decide +kernel, by decide +kernel⟩, by decide⟩
theorem csh_L_145 : CSH RL 145 yL_drive cL_drive 4 (some .int) [(0, 9, 12, 13)] 3 := ⟨csw_L_145, ⟨by decide +kernel, by decide +kernel, by decide +kernel⟩, by decide⟩
theorem csh_L_148 : CSH RL 148 yL_carry cL_carry 5 (some .int) [(0, 10, 13, 13)] 4 := ⟨csw_L_148, ⟨by decide +kernel, by decide +kernel, by decide +kernel⟩, by decide⟩
theorem csh_L_151 : CSH RL 151 yL_bone cL_bone 3 (some .int) [(0, 8, 11, 13)] 2 := ⟨csw_L_151, ⟨by decide +kernel, by decide +kernel, by decide +kernel⟩, by decide⟩
theorem csh_L_155 : CSH RL 155 yL_bones cL_bones 4 (some .int) [(0, 9, 12, 13)] 3 := ⟨csw_L_155, ⟨by decide +kernel, by decide +kernel, by decide +kernel⟩, by decide⟩
theorem csh_L_158 : CSH RL 158 yL_mop cL_mop 4 (some .int) [(0, 9, 12, 13)] 3 := ⟨csw_L_158, ⟨by decide +kernel, by decide +kernel, by decide +kernel⟩, by decide⟩
theorem csh_L_161 : CSH RL 161 yL_pay cL_pay 5 (some .int) [(0, 10, 13, 13)] 4 := ⟨csw_L_161, ⟨by decide +kernel, by decide +kernel, by decide +kernel⟩, by decide⟩
theorem csh_L_164 : CSH RL 164 yL_shoe cL_shoe 4 (some .int) [(0, 9, 12, 13)] 3 := ⟨csw_L_164, ⟨by decide +kernel, by decide +kernel, by decide +kernel⟩, by decide⟩
theorem csh_L_167 : CSH RL 167 yL_days cL_days 4 (some .int) [(0, 9, 12, 13)] 3 := ⟨csw_L_167, ⟨by decide +kernel, by decide +kernel, by decide +kernel⟩, by decide⟩
theorem csh_L_170 : CSH RL 170 yL_houseOf cL_houseOf 5 (some .int) [(0, 10, 13, 53), (0, 10, 17, 55)] 4 := ⟨csw_L_170, ⟨by decide +kernel, by decide +kernel, by decide +kernel⟩, by decide⟩
theorem csh_L_173 : CSH RL 173 yL_carrierOf cL_carrierOf 5 (some .int) [(0, 10, 13, 53), (0, 10, 17, 55)] 4 := ⟨csw_L_173, ⟨by decide +kernel, by decide +kernel, by decide +kernel⟩, by decide⟩
theorem csh_L_176 : CSH RL 176 yL_shoeOf cL_shoeOf 4 (some .int) [(0, 9, 12, 53)] 3 := ⟨csw_L_176, ⟨by decide +kernel, by decide +kernel, by decide +kernel⟩, by decide⟩
theorem csh_L_179 : CSH RL 179 yL_tires cL_tires 5 (some .int) [(0, 10, 13, 53)] 4 := ⟨csw_L_179, ⟨by decide +kernel, by decide +kernel, by decide +kernel⟩, by decide⟩
theorem csh_L_182 : CSH RL 182 yL_canCarry cL_canCarry 5 (some .int) [(0, 10, 13, 53)] 4 := ⟨csw_L_182, ⟨by decide +kernel, by decide +kernel, by decide +kernel⟩, by decide⟩
theorem csh_L_185 : CSH RL 185 yL_mayCarry cL_mayCarry 4 (some .int) [(0, 9, 12, 53)] 3 := ⟨csw_L_185, ⟨by decide +kernel, by decide +kernel, by decide +kernel⟩, by decide⟩
theorem csh_L_188 : CSH RL 188 yL_bestCarrier cL_bestCarrier 4 (some .int) [(0, 9, 12, 53), (0, 9, 15, 75)] 3 := ⟨csw_L_188, ⟨by decide +kernel, by decide +kernel, by decide +kernel⟩, by decide⟩
theorem csh_L_195 : CSH RL 195 yL_isQuiet cL_isQuiet 4 (some .int) [(0, 16, 19, 53)] 3 := ⟨csw_L_195, ⟨by decide +kernel, by decide +kernel, by decide +kernel⟩, by decide⟩
theorem csh_L_198 : CSH RL 198 yL_ranked cL_ranked 4 (some .int) [(0, 9, 12, 75)] 3 := ⟨csw_L_198, ⟨by decide +kernel, by decide +kernel, by decide +kernel⟩, by decide⟩
theorem csh_L_209 : CSH RL 209 yL_append cL_append 4 (some .int) [(0, 9, 12, 88)] 3 := ⟨csw_L_209, ⟨by decide +kernel, by decide +kernel, by decide +kernel⟩, by decide⟩
theorem csh_L_213 : CSH RL 213 yL_commands cL_commands 3 (some .int) [(0, 8, 11, 55), (0, 8, 14, 13)] 2 := ⟨csw_L_213, ⟨by decide +kernel, by decide +kernel, by decide +kernel⟩, by decide⟩
theorem csh_L_220 : CSH RL 220 yL_reason cL_reason 4 (some .int) [(0, 9, 12, 55), (0, 9, 15, 75)] 3 := ⟨csw_L_220, ⟨by decide +kernel, by decide +kernel, by decide +kernel⟩, by decide⟩
theorem csh_L_223 : CSH RL 223 yL_line cL_line 4 (some .int) [(0, 9, 12, 53)] 3 := ⟨csw_L_223, ⟨by decide +kernel, by decide +kernel, by decide +kernel⟩, by decide⟩
theorem csh_L_226 : CSH RL 226 yL_character cL_character 4 (some .int) [(0, 9, 12, 53)] 3 := ⟨csw_L_226, ⟨by decide +kernel, by decide +kernel, by decide +kernel⟩, by decide⟩
theorem csh_L_229 : CSH RL 229 yL_meanArrears cL_meanArrears 3 (some .int) [(0, 8, 11, 107)] 2 := ⟨csw_L_229, ⟨by decide +kernel, by decide +kernel, by decide +kernel⟩, by decide⟩
theorem csh_L_233 : CSH RL 233 yL_paidShare cL_paidShare 3 (some .int) [(0, 7, 10, 107)] 2 := ⟨csw_L_233, ⟨by decide +kernel, by decide +kernel, by decide +kernel⟩, by decide⟩
theorem csh_L_236 : CSH RL 236 yL_account cL_account 4 (some .int) [(0, 9, 12, 55)] 3 := ⟨csw_L_236, ⟨by decide +kernel, by decide +kernel, by decide +kernel⟩, by decide⟩
theorem csh_L_239 : CSH RL 239 yL_undo cL_undo 3 (some .int) [(0, 8, 11, 88)] 2 := ⟨csw_L_239, ⟨by decide +kernel, by decide +kernel, by decide +kernel⟩, by decide⟩
theorem csh_L_246 : CSH RL 246 yL_restore cL_restore 3 (some .int) [(0, 8, 11, 88)] 2 := ⟨csw_L_246, ⟨by decide +kernel, by decide +kernel, by decide +kernel⟩, by decide⟩
