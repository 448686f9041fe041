/-! the StringBuilder: room -/
theorem dJ8_newLength_cabcc_0 : decode cJ8_newLength_cabcc 0 = .ok (.iload_n 0, 1) := by decide +kernel
theorem dJ8_newLength_cabcc_1 : decode cJ8_newLength_cabcc 1 = .ok (.iload_n 1, 1) := by decide +kernel
theorem dJ8_newLength_cabcc_2 : decode cJ8_newLength_cabcc 2 = .ok (.iload_n 2, 1) := by decide +kernel
theorem dJ8_newLength_cabcc_3 : decode cJ8_newLength_cabcc 3 = .ok (.invokestatic 194, 3) := by decide +kernel
theorem dJ8_newLength_cabcc_6 : decode cJ8_newLength_cabcc 6 = .ok (.iadd, 1) := by decide +kernel
theorem dJ8_newLength_cabcc_7 : decode cJ8_newLength_cabcc 7 = .ok (.istore_n 3, 1) := by decide +kernel
theorem dJ8_newLength_cabcc_8 : decode cJ8_newLength_cabcc 8 = .ok (.iconst 0, 1) := by decide +kernel
theorem dJ8_newLength_cabcc_9 : decode cJ8_newLength_cabcc 9 = .ok (.iload_n 3, 1) := by decide +kernel
theorem dJ8_newLength_cabcc_10 : decode cJ8_newLength_cabcc 10 = .ok (.if_icmp .ge 11, 3) := by decide +kernel
theorem dJ8_newLength_cabcc_13 : decode cJ8_newLength_cabcc 13 = .ok (.iload_n 3, 1) := by decide +kernel
theorem dJ8_newLength_cabcc_14 : decode cJ8_newLength_cabcc 14 = .ok (.ldc 200, 2) := by decide +kernel
theorem dJ8_newLength_cabcc_16 : decode cJ8_newLength_cabcc 16 = .ok (.if_icmp .gt 5, 3) := by decide +kernel
theorem dJ8_newLength_cabcc_19 : decode cJ8_newLength_cabcc 19 = .ok (.iload_n 3, 1) := by decide +kernel
theorem dJ8_newLength_cabcc_20 : decode cJ8_newLength_cabcc 20 = .ok (.ireturn, 1) := by decide +kernel
theorem dJ8_newLength_cabcc_21 : decode cJ8_newLength_cabcc 21 = .ok (.iload_n 0, 1) := by decide +kernel
theorem dJ8_newLength_cabcc_22 : decode cJ8_newLength_cabcc 22 = .ok (.iload_n 1, 1) := by decide +kernel
theorem dJ8_newLength_cabcc_23 : decode cJ8_newLength_cabcc 23 = .ok (.invokestatic 201, 3) := by decide +kernel
theorem dJ8_newLength_cabcc_26 : decode cJ8_newLength_cabcc 26 = .ok (.ireturn, 1) := by decide +kernel
theorem dJ7_copyOf_9075b_0 : decode cJ7_copyOf_9075b 0 = .ok (.iload_n 1, 1) := by decide +kernel
theorem dJ7_copyOf_9075b_1 : decode cJ7_copyOf_9075b 1 = .ok (.aload_n 0, 1) := by decide +kernel
theorem dJ7_copyOf_9075b_2 : decode cJ7_copyOf_9075b 2 = .ok (.arraylength, 1) := by decide +kernel
theorem dJ7_copyOf_9075b_3 : decode cJ7_copyOf_9075b 3 = .ok (.if_icmp .ne 11, 3) := by decide +kernel
theorem dJ7_copyOf_9075b_6 : decode cJ7_copyOf_9075b 6 = .ok (.aload_n 0, 1) := by decide +kernel
theorem dJ7_copyOf_9075b_7 : decode cJ7_copyOf_9075b 7 = .ok (.invokevirtual 310, 3) := by decide +kernel
theorem dJ7_copyOf_9075b_10 : decode cJ7_copyOf_9075b 10 = .ok (.checkcast 311, 3) := by decide +kernel
theorem dJ7_copyOf_9075b_13 : decode cJ7_copyOf_9075b 13 = .ok (.areturn, 1) := by decide +kernel
theorem dJ7_copyOf_9075b_14 : decode cJ7_copyOf_9075b 14 = .ok (.iload_n 1, 1) := by decide +kernel
theorem dJ7_copyOf_9075b_15 : decode cJ7_copyOf_9075b 15 = .ok (.newarray .byte, 2) := by decide +kernel
theorem dJ7_copyOf_9075b_17 : decode cJ7_copyOf_9075b 17 = .ok (.astore_n 2, 1) := by decide +kernel
theorem dJ7_copyOf_9075b_18 : decode cJ7_copyOf_9075b 18 = .ok (.aload_n 0, 1) := by decide +kernel
theorem dJ7_copyOf_9075b_19 : decode cJ7_copyOf_9075b 19 = .ok (.iconst 0, 1) := by decide +kernel
theorem dJ7_copyOf_9075b_20 : decode cJ7_copyOf_9075b 20 = .ok (.aload_n 2, 1) := by decide +kernel
theorem dJ7_copyOf_9075b_21 : decode cJ7_copyOf_9075b 21 = .ok (.iconst 0, 1) := by decide +kernel
theorem dJ7_copyOf_9075b_22 : decode cJ7_copyOf_9075b 22 = .ok (.aload_n 0, 1) := by decide +kernel
theorem dJ7_copyOf_9075b_23 : decode cJ7_copyOf_9075b 23 = .ok (.arraylength, 1) := by decide +kernel
theorem dJ7_copyOf_9075b_24 : decode cJ7_copyOf_9075b 24 = .ok (.iload_n 1, 1) := by decide +kernel
theorem dJ7_copyOf_9075b_25 : decode cJ7_copyOf_9075b 25 = .ok (.invokestatic 304, 3) := by decide +kernel
theorem dJ7_copyOf_9075b_28 : decode cJ7_copyOf_9075b 28 = .ok (.invokestatic 150, 3) := by decide +kernel
theorem dJ7_copyOf_9075b_31 : decode cJ7_copyOf_9075b 31 = .ok (.aload_n 2, 1) := by decide +kernel
theorem dJ7_copyOf_9075b_32 : decode cJ7_copyOf_9075b 32 = .ok (.areturn, 1) := by decide +kernel
theorem dJ5_isLatin1_aae02_0 : decode cJ5_isLatin1_aae02 0 = .ok (.getstatic 18, 3) := by decide +kernel
theorem dJ5_isLatin1_aae02_3 : decode cJ5_isLatin1_aae02 3 = .ok (.ifCond .eq 14, 3) := by decide +kernel
theorem dJ5_isLatin1_aae02_6 : decode cJ5_isLatin1_aae02 6 = .ok (.aload_n 0, 1) := by decide +kernel
theorem dJ5_isLatin1_aae02_7 : decode cJ5_isLatin1_aae02 7 = .ok (.getfield 22, 3) := by decide +kernel
theorem dJ5_isLatin1_aae02_10 : decode cJ5_isLatin1_aae02 10 = .ok (.ifCond .ne 7, 3) := by decide +kernel
theorem dJ5_isLatin1_aae02_13 : decode cJ5_isLatin1_aae02 13 = .ok (.iconst 1, 1) := by decide +kernel
theorem dJ5_isLatin1_aae02_14 : decode cJ5_isLatin1_aae02 14 = .ok (.goto 4, 3) := by decide +kernel
theorem dJ5_isLatin1_aae02_17 : decode cJ5_isLatin1_aae02 17 = .ok (.iconst 0, 1) := by decide +kernel
theorem dJ5_isLatin1_aae02_18 : decode cJ5_isLatin1_aae02 18 = .ok (.ireturn, 1) := by decide +kernel
theorem dJ5_newCapacity_0f7a4_0 : decode cJ5_newCapacity_0f7a4 0 = .ok (.aload_n 0, 1) := by decide +kernel
theorem dJ5_newCapacity_0f7a4_1 : decode cJ5_newCapacity_0f7a4 1 = .ok (.getfield 15, 3) := by decide +kernel
theorem dJ5_newCapacity_0f7a4_4 : decode cJ5_newCapacity_0f7a4 4 = .ok (.arraylength, 1) := by decide +kernel
theorem dJ5_newCapacity_0f7a4_5 : decode cJ5_newCapacity_0f7a4 5 = .ok (.istore_n 2, 1) := by decide +kernel
theorem dJ5_newCapacity_0f7a4_6 : decode cJ5_newCapacity_0f7a4 6 = .ok (.iload_n 1, 1) := by decide +kernel
theorem dJ5_newCapacity_0f7a4_7 : decode cJ5_newCapacity_0f7a4 7 = .ok (.aload_n 0, 1) := by decide +kernel
theorem dJ5_newCapacity_0f7a4_8 : decode cJ5_newCapacity_0f7a4 8 = .ok (.getfield 22, 3) := by decide +kernel
theorem dJ5_newCapacity_0f7a4_11 : decode cJ5_newCapacity_0f7a4 11 = .ok (.ishl, 1) := by decide +kernel
theorem dJ5_newCapacity_0f7a4_12 : decode cJ5_newCapacity_0f7a4 12 = .ok (.istore_n 3, 1) := by decide +kernel
theorem dJ5_newCapacity_0f7a4_13 : decode cJ5_newCapacity_0f7a4 13 = .ok (.iload_n 3, 1) := by decide +kernel
theorem dJ5_newCapacity_0f7a4_14 : decode cJ5_newCapacity_0f7a4 14 = .ok (.iload_n 2, 1) := by decide +kernel
theorem dJ5_newCapacity_0f7a4_15 : decode cJ5_newCapacity_0f7a4 15 = .ok (.isub, 1) := by decide +kernel
theorem dJ5_newCapacity_0f7a4_16 : decode cJ5_newCapacity_0f7a4 16 = .ok (.istore 4, 2) := by decide +kernel
theorem dJ5_newCapacity_0f7a4_18 : decode cJ5_newCapacity_0f7a4 18 = .ok (.iload_n 2, 1) := by decide +kernel
theorem dJ5_newCapacity_0f7a4_19 : decode cJ5_newCapacity_0f7a4 19 = .ok (.iload 4, 2) := by decide +kernel
theorem dJ5_newCapacity_0f7a4_21 : decode cJ5_newCapacity_0f7a4 21 = .ok (.iload_n 2, 1) := by decide +kernel
theorem dJ5_newCapacity_0f7a4_22 : decode cJ5_newCapacity_0f7a4 22 = .ok (.iconst 2, 1) := by decide +kernel
theorem dJ5_newCapacity_0f7a4_23 : decode cJ5_newCapacity_0f7a4 23 = .ok (.aload_n 0, 1) := by decide +kernel
theorem dJ5_newCapacity_0f7a4_24 : decode cJ5_newCapacity_0f7a4 24 = .ok (.getfield 22, 3) := by decide +kernel
theorem dJ5_newCapacity_0f7a4_27 : decode cJ5_newCapacity_0f7a4 27 = .ok (.ishl, 1) := by decide +kernel
theorem dJ5_newCapacity_0f7a4_28 : decode cJ5_newCapacity_0f7a4 28 = .ok (.iadd, 1) := by decide +kernel
theorem dJ5_newCapacity_0f7a4_29 : decode cJ5_newCapacity_0f7a4 29 = .ok (.invokestatic 114, 3) := by decide +kernel
theorem dJ5_newCapacity_0f7a4_32 : decode cJ5_newCapacity_0f7a4 32 = .ok (.istore 5, 2) := by decide +kernel
theorem dJ5_newCapacity_0f7a4_34 : decode cJ5_newCapacity_0f7a4 34 = .ok (.iload 5, 2) := by decide +kernel
theorem dJ5_newCapacity_0f7a4_36 : decode cJ5_newCapacity_0f7a4 36 = .ok (.ldc 39, 2) := by decide +kernel
theorem dJ5_newCapacity_0f7a4_38 : decode cJ5_newCapacity_0f7a4 38 = .ok (.if_icmp .ne 13, 3) := by decide +kernel
theorem dJ5_newCapacity_0f7a4_41 : decode cJ5_newCapacity_0f7a4 41 = .ok (.new 120, 3) := by decide +kernel
theorem dJ5_newCapacity_0f7a4_44 : decode cJ5_newCapacity_0f7a4 44 = .ok (.dup, 1) := by decide +kernel
theorem dJ5_newCapacity_0f7a4_45 : decode cJ5_newCapacity_0f7a4 45 = .ok (.ldc 122, 2) := by decide +kernel
theorem dJ5_newCapacity_0f7a4_47 : decode cJ5_newCapacity_0f7a4 47 = .ok (.invokespecial 124, 3) := by decide +kernel
theorem dJ5_newCapacity_0f7a4_50 : decode cJ5_newCapacity_0f7a4 50 = .ok (.athrow, 1) := by decide +kernel
theorem dJ5_newCapacity_0f7a4_51 : decode cJ5_newCapacity_0f7a4 51 = .ok (.iload 5, 2) := by decide +kernel
theorem dJ5_newCapacity_0f7a4_53 : decode cJ5_newCapacity_0f7a4 53 = .ok (.aload_n 0, 1) := by decide +kernel
theorem dJ5_newCapacity_0f7a4_54 : decode cJ5_newCapacity_0f7a4 54 = .ok (.getfield 22, 3) := by decide +kernel
theorem dJ5_newCapacity_0f7a4_57 : decode cJ5_newCapacity_0f7a4 57 = .ok (.ishr, 1) := by decide +kernel
theorem dJ5_newCapacity_0f7a4_58 : decode cJ5_newCapacity_0f7a4 58 = .ok (.ireturn, 1) := by decide +kernel
theorem dJ5_ensureCapacityInternal_d00df_0 : decode cJ5_ensureCapacityInternal_d00df 0 = .ok (.aload_n 0, 1) := by decide +kernel
theorem dJ5_ensureCapacityInternal_d00df_1 : decode cJ5_ensureCapacityInternal_d00df 1 = .ok (.getfield 15, 3) := by decide +kernel
theorem dJ5_ensureCapacityInternal_d00df_4 : decode cJ5_ensureCapacityInternal_d00df 4 = .ok (.arraylength, 1) := by decide +kernel
theorem dJ5_ensureCapacityInternal_d00df_5 : decode cJ5_ensureCapacityInternal_d00df 5 = .ok (.aload_n 0, 1) := by decide +kernel
theorem dJ5_ensureCapacityInternal_d00df_6 : decode cJ5_ensureCapacityInternal_d00df 6 = .ok (.getfield 22, 3) := by decide +kernel
theorem dJ5_ensureCapacityInternal_d00df_9 : decode cJ5_ensureCapacityInternal_d00df 9 = .ok (.ishr, 1) := by decide +kernel
theorem dJ5_ensureCapacityInternal_d00df_10 : decode cJ5_ensureCapacityInternal_d00df 10 = .ok (.istore_n 2, 1) := by decide +kernel
theorem dJ5_ensureCapacityInternal_d00df_11 : decode cJ5_ensureCapacityInternal_d00df 11 = .ok (.iload_n 1, 1) := by decide +kernel
theorem dJ5_ensureCapacityInternal_d00df_12 : decode cJ5_ensureCapacityInternal_d00df 12 = .ok (.iload_n 2, 1) := by decide +kernel
theorem dJ5_ensureCapacityInternal_d00df_13 : decode cJ5_ensureCapacityInternal_d00df 13 = .ok (.isub, 1) := by decide +kernel
theorem dJ5_ensureCapacityInternal_d00df_14 : decode cJ5_ensureCapacityInternal_d00df 14 = .ok (.ifCond .le 24, 3) := by decide +kernel
theorem dJ5_ensureCapacityInternal_d00df_17 : decode cJ5_ensureCapacityInternal_d00df 17 = .ok (.aload_n 0, 1) := by decide +kernel
theorem dJ5_ensureCapacityInternal_d00df_18 : decode cJ5_ensureCapacityInternal_d00df 18 = .ok (.aload_n 0, 1) := by decide +kernel
theorem dJ5_ensureCapacityInternal_d00df_19 : decode cJ5_ensureCapacityInternal_d00df 19 = .ok (.getfield 15, 3) := by decide +kernel
theorem dJ5_ensureCapacityInternal_d00df_22 : decode cJ5_ensureCapacityInternal_d00df 22 = .ok (.aload_n 0, 1) := by decide +kernel
theorem dJ5_ensureCapacityInternal_d00df_23 : decode cJ5_ensureCapacityInternal_d00df 23 = .ok (.iload_n 1, 1) := by decide +kernel
theorem dJ5_ensureCapacityInternal_d00df_24 : decode cJ5_ensureCapacityInternal_d00df 24 = .ok (.invokevirtual 104, 3) := by decide +kernel
theorem dJ5_ensureCapacityInternal_d00df_27 : decode cJ5_ensureCapacityInternal_d00df 27 = .ok (.aload_n 0, 1) := by decide +kernel
theorem dJ5_ensureCapacityInternal_d00df_28 : decode cJ5_ensureCapacityInternal_d00df 28 = .ok (.getfield 22, 3) := by decide +kernel
theorem dJ5_ensureCapacityInternal_d00df_31 : decode cJ5_ensureCapacityInternal_d00df 31 = .ok (.ishl, 1) := by decide +kernel
theorem dJ5_ensureCapacityInternal_d00df_32 : decode cJ5_ensureCapacityInternal_d00df 32 = .ok (.invokestatic 108, 3) := by decide +kernel
theorem dJ5_ensureCapacityInternal_d00df_35 : decode cJ5_ensureCapacityInternal_d00df 35 = .ok (.putfield 15, 3) := by decide +kernel
theorem dJ5_ensureCapacityInternal_d00df_38 : decode cJ5_ensureCapacityInternal_d00df 38 = .ok (.return_, 1) := by decide +kernel
theorem cm_J8_194 : CM RJ8 194 Lib.Math.max.name Lib.Math.max.code := ⟨(wt_mem 1110 (by decide +kernel) (by decide +kernel)), (wt_mem 415 (by decide +kernel) (by decide +kernel)), (wt_mem 63 (by decide +kernel) (by decide +kernel)), (wt_mem 416 (by decide +kernel) (by decide +kernel))⟩
theorem cm_J7_304 : CM RJ7 304 Lib.Math.min.name Lib.Math.min.code := ⟨(wt_mem 1126 (by decide +kernel) (by decide +kernel)), (wt_mem 542 (by decide +kernel) (by decide +kernel)), (wt_mem 63 (by decide +kernel) (by decide +kernel)), (wt_mem 543 (by decide +kernel) (by decide +kernel))⟩
theorem fb_J5_18 : Cond.fieldLink RJ5 18 "java/lang/String" "COMPACT_STRINGS" "Z" ∈ WT := (wt_mem 326 (by decide +kernel) (by decide +kernel))
theorem kc_J8_200 : Cond.constant RJ8 200 (2147483639 : Int32) ∈ WT := (wt_mem 1111 (by decide +kernel) (by decide +kernel))
theorem kc_J5_39 : Cond.constant RJ5 39 (2147483647 : Int32) ∈ WT := (wt_mem 1115 (by decide +kernel) (by decide +kernel))
theorem ac_lk : Cond.methodLink RJ7 150 arraycopyName ∈ WT := (wt_mem 1127 (by decide +kernel) (by decide +kernel))
theorem ac_na : Cond.native arraycopyName ∈ WT := (wt_mem 1129 (by decide +kernel) (by decide +kernel))
theorem ac_st : Cond.static arraycopyName ∈ WT := (wt_mem 1128 (by decide +kernel) (by decide +kernel))
theorem ac_in : Cond.initialized "java/lang/System" ∈ WT := (wt_mem 75 (by decide +kernel) (by decide +kernel))
theorem ab_cl : Cond.arrayClass .byte ∈ WT := (wt_mem 349 (by decide +kernel) (by decide +kernel))
theorem shl0 {x : Int32} : x <<< ((0 : Int32) &&& 31) = x := by
  rw [show (0 : Int32) &&& 31 = 0 from by decide]
  exact Int32.shiftLeft_zero
theorem shr0 {x : Int32} : x >>> ((0 : Int32) &&& 31) = x := by
  rw [show (0 : Int32) &&& 31 = 0 from by decide]
  exact Int32.shiftRight_zero
/-- the text in the StringBuilder -/
def SBok (A : AT) (σ : Sg) (L : List Nat) : Prop := nA A σ.2.2.2.1 ∧ (σ.2.2.2.2.1 = 16 ∨ σ.2.2.2.2.1 = 34) ∧ σ.1 16 0 0 = nI L.length ∧ L.length ≤ σ.2.2.2.2.1 ∧ (∀ i, ∃ b, b < 128 ∧ σ.2.2.2.2.2 i = nI b) ∧ ∀ i, i < L.length → σ.2.2.2.2.2 i = nI (L.getD i 0)
theorem mx18 {m : Nat} (h : m ≤ 18) : (16 : Int32) + (if nI m < 18 then 18 else nI m) = nI 34 := by
  have e : (nI m < 18) ↔ m < 18 := nI_ltI (a := m) (b := 18) (by omega) (by decide)
  by_cases z : m < 18
  · rw [if_pos (e.mpr z)]
    rfl
  · rw [if_neg (fun y => z (e.mp y)), show m = 18 by omega]
    rfl

set_option maxHeartbeats 4000000 in
set_option maxRecDepth 100000 in
theorem t_J8_newLength_cabcc {D : va_G} {s0 : State} {l : Launch} {G : GH} {m : Nat} (hm : m ≤ 18) : Tri D s0 l yJ8_newLength_cabcc cJ8_newLength_cabcc 4 ((some .int)) 1 0 0 [.int 16, .int (nI m), .int 18] G (fun r G' => r = some (.int (nI 34)) ∧ G' = G) noX := by
  refine Tri.ofV (own := RJ8) (mn := "newLength") (by decide +kernel) rfl rfl (Nat.le_of_ble_eq_true rfl) ?_
  refine V_iload_n (i := 0) dJ8_newLength_cabcc_0 rfl rfl ?_
  refine V_iload_n (i := 1) dJ8_newLength_cabcc_1 rfl rfl ?_
  refine V_iload_n (i := 2) dJ8_newLength_cabcc_2 rfl rfl ?_
  refine V_mmax cm_J8_194 dJ8_newLength_cabcc_3 (Nat.le_of_ble_eq_true rfl) (Nat.le_of_ble_eq_true rfl) (Nat.le_of_ble_eq_true rfl) (Nat.le_of_ble_eq_true rfl) ?_
  refine V_iadd dJ8_newLength_cabcc_6 ?_
  rw [mx18 hm]
  refine V_istore_n (i := 3) dJ8_newLength_cabcc_7 rfl (by decide) ?_
  refine V_iconst (v := 0) dJ8_newLength_cabcc_8 (by decide) ?_
  refine V_iload_n (i := 3) dJ8_newLength_cabcc_9 rfl rfl ?_
  refine V_icmp_ge (tgt := 21) dJ8_newLength_cabcc_10 (by decide) (fun h10 => by first | exact absurd h10 (by decide) | exact absurd (by decide) h10) (fun _ => ?_)
  refine V_iload_n (i := 3) dJ8_newLength_cabcc_13 rfl rfl ?_
  refine V_ldcI kc_J8_200 dJ8_newLength_cabcc_14 ?_
  refine V_icmp_gt (tgt := 21) dJ8_newLength_cabcc_16 (by decide) (fun h16 => by first | exact absurd h16 (by decide) | exact absurd (by decide) h16) (fun _ => ?_)
  refine V_iload_n (i := 3) dJ8_newLength_cabcc_19 rfl rfl ?_
  refine V_iret dJ8_newLength_cabcc_20 rfl (Nat.le_of_ble_eq_true rfl) (Nat.le_of_ble_eq_true rfl) ?_
  exact ⟨rfl, rfl⟩

set_option maxHeartbeats 4000000 in
set_option maxRecDepth 100000 in
theorem t_J5_isLatin1_aae02 {D : va_G} {s0 : State} {l : Launch} {G : GH} {B : Nat} {A : AT} {σ : Sg} (hA : AOK B A) (hG : G = HP A σ) : Tri D s0 l yJ5_isLatin1_aae02 cJ5_isLatin1_aae02 1 ((some .boolean)) 0 0 0 [.ref (A 16 0 0)] G (fun r G' => r = some (.int 1) ∧ G' = HP A σ) noX := by
  subst hG
  refine tr_fr (fun h0 => ?_)
  refine Tri.ofV (own := RJ5) (mn := "isLatin1") (by decide +kernel) rfl rfl (Nat.le_of_ble_eq_true rfl) ?_
  refine V_gst h0.cs fb_J5_18 dJ5_isLatin1_aae02_0 ?_
  refine V_if_eq (tgt := 17) dJ5_isLatin1_aae02_3 (by decide) (fun h3 => by first | exact absurd h3 (by decide) | exact absurd (by decide) h3) (fun _ => ?_)
  refine V_aload_n (i := 0) dJ5_isLatin1_aae02_6 rfl rfl ?_
  refine V_getf fl_J5_22 dJ5_isLatin1_aae02_7 (hp16 hA) rfl ?_
  refine V_if_ne (tgt := 17) dJ5_isLatin1_aae02_10 (by decide) (fun h10 => by first | exact absurd h10 (by decide) | exact absurd (by decide) h10) (fun _ => ?_)
  refine V_iconst (v := 1) dJ5_isLatin1_aae02_13 (by decide) ?_
  refine V_goto (tgt := 18) dJ5_isLatin1_aae02_14 (by decide) ?_
  refine V_zret dJ5_isLatin1_aae02_18 rfl (by first | rfl | exact bi_n _) (Nat.le_of_ble_eq_true rfl) (Nat.le_of_ble_eq_true rfl) ?_
  exact ⟨rfl, rfl⟩

theorem fit_128 : ∀ b, b < 128 → fits .byte (.int (nI b)) = true := by
  have h : (List.range 128).all (fun b => fits .byte (.int (nI b))) = true := by decide +kernel
  exact fun b hb => List.all_eq_true.mp h b (List.mem_range.mpr hb)

set_option maxHeartbeats 4000000 in
set_option maxRecDepth 100000 in
theorem t_J7_copyOf_9075b {D : va_G} {s0 : State} {l : Launch} {G : GH} {a0 : Nat} {f : Nat → Int32} (hc : G a0 = some (.inr (.byte, 16, fun j => .int (f j)))) (hfb : ∀ i, ∃ b, b < 128 ∧ f i = nI b) : Tri D s0 l yJ7_copyOf_9075b cJ7_copyOf_9075b 3 ((some (.array .byte))) 0 1 34 [.ref a0, .int (nI 34)] G (fun r G' => ∃ (q : Nat) (f' : Nat → Int32), r = some (.ref q) ∧ s0.heap.size ≤ q ∧ G q = none ∧ G' = gset G q (.inr (.byte, 34, fun j => .int (f' j))) ∧ ∀ j, f' j = if j < 16 then f j else 0) noX := by
  refine Tri.ofV (own := RJ7) (mn := "copyOf") (by decide +kernel) rfl rfl (Nat.le_of_ble_eq_true rfl) ?_
  refine V_iload_n (i := 1) dJ7_copyOf_9075b_0 rfl rfl ?_
  refine V_aload_n (i := 0) dJ7_copyOf_9075b_1 rfl rfl ?_
  refine V_alen dJ7_copyOf_9075b_2 hc rfl ?_
  refine V_icmp_ne (tgt := 14) dJ7_copyOf_9075b_3 (by decide) (fun _ => ?_) (fun h3 => by first | exact absurd (by decide) h3 | exact absurd h3 (by decide))
  refine V_iload_n (i := 1) dJ7_copyOf_9075b_14 rfl rfl ?_
  refine V_newa (ty := .byte) (N := 34) dJ7_copyOf_9075b_15 ab_cl rfl (by decide) (by decide) (by decide) (Nat.le_of_ble_eq_true rfl) (Nat.le_of_ble_eq_true rfl) (fun C z => by cases z) (fun q hq hg => ?_)
  have ha : ¬ a0 = q := fun z => by rw [z, hg] at hc; cases hc
  have hc2 : gset G q (.inr (.byte, 34, fun _ => .int 0)) a0 = some (.inr (.byte, 16, fun j => .int (f j))) := by
    unfold gset
    rw [if_neg ha]
    exact hc
  refine V.eqG (show _ = gset G q (.inr (.byte, 34, fun _ => .int 0)) from rfl) ?_
  refine V_astore_n (i := 2) dJ7_copyOf_9075b_17 rfl (by decide) ?_
  refine V_aload_n (i := 0) dJ7_copyOf_9075b_18 rfl rfl ?_
  refine V_iconst (v := nI 0) dJ7_copyOf_9075b_19 (by decide) ?_
  refine V_aload_n (i := 2) dJ7_copyOf_9075b_20 rfl rfl ?_
  refine V_iconst (v := nI 0) dJ7_copyOf_9075b_21 (by decide) ?_
  refine V_aload_n (i := 0) dJ7_copyOf_9075b_22 rfl rfl ?_
  refine V_alen dJ7_copyOf_9075b_23 hc2 rfl ?_
  refine V_iload_n (i := 1) dJ7_copyOf_9075b_24 rfl rfl ?_
  refine V_mmin cm_J7_304 dJ7_copyOf_9075b_25 (Nat.le_of_ble_eq_true rfl) (Nat.le_of_ble_eq_true rfl) (Nat.le_of_ble_eq_true rfl) (Nat.le_of_ble_eq_true rfl) ?_
  refine V.eqst (st' := [.int (nI 16), .int (nI 0), .ref q, .int (nI 0), .ref a0]) rfl ?_
  refine V_copyb (n0 := 16) (n1 := 34) (f := f) (g := fun _ => 0) ac_lk ac_na ac_st ac_in dJ7_copyOf_9075b_28 hc2 (if_pos rfl) (by decide) (by decide) (by decide) (by decide) (fun i hi => ?_) ⟨Nat.le_of_ble_eq_true rfl, Nat.le_of_ble_eq_true rfl⟩ (Nat.le_of_ble_eq_true rfl) ?_
  · obtain ⟨b, hb, e⟩ := hfb (0 + i)
    rw [e]
    exact fit_128 b hb
  refine V_aload_n (i := 2) dJ7_copyOf_9075b_31 rfl rfl ?_
  refine V_aret dJ7_copyOf_9075b_32 rfl (Or.inr ⟨_, rfl⟩) (Or.inr ⟨_, rfl⟩) (Nat.le_of_ble_eq_true rfl) (Nat.le_of_ble_eq_true rfl) ?_
  refine ⟨q, fun j => va_cpy f (fun _ => 0) 0 0 16 j, rfl, hq, hg, ?_, fun j => ?_⟩
  · funext j
    unfold gset
    by_cases z : j = q
    · rw [if_pos z, if_pos z]
    · rw [if_neg z, if_neg z, if_neg z]
  · show (if 0 ≤ j ∧ j < 0 + 16 then f (0 + (j - 0)) else 0) = if j < 16 then f j else 0
    by_cases z : j < 16
    · rw [if_pos (⟨Nat.zero_le _, by omega⟩ : 0 ≤ j ∧ j < 0 + 16), if_pos z, show 0 + (j - 0) = j by omega]
    · rw [if_neg (fun y => z (by omega)), if_neg z]

theorem SBok.sb {A : AT} {σ : Sg} {L : List Nat} (h : SBok A σ L) : HP A σ σ.2.2.2.1 = some (.inr (.byte, σ.2.2.2.2.1, fun j => .int (σ.2.2.2.2.2 j))) := HP_sb h.1

set_option maxHeartbeats 4000000 in
set_option maxRecDepth 100000 in
theorem t_J5_newCapacity_0f7a4 {D : va_G} {s0 : State} {l : Launch} {G : GH} {B : Nat} {A : AT} {σ : Sg} (hA : AOK B A) (hG : G = HP A σ) {k : Nat} (hsb : HP A σ σ.2.2.2.1 = some (.inr (.byte, 16, fun j => .int (σ.2.2.2.2.2 j)))) (hk : 16 < k) (hk2 : k ≤ 34) : Tri D s0 l yJ5_newCapacity_0f7a4 cJ5_newCapacity_0f7a4 6 ((some .int)) 2 0 0 [.ref (A 16 0 0), .int (nI k)] G (fun r G' => r = some (.int (nI 34)) ∧ G' = HP A σ) noX := by
  subst hG
  refine Tri.ofV (own := RJ5) (mn := "newCapacity") (by decide +kernel) rfl rfl (Nat.le_of_ble_eq_true rfl) ?_
  refine V_aload_n (i := 0) dJ5_newCapacity_0f7a4_0 rfl rfl ?_
  refine V_getf fl_J5_15 dJ5_newCapacity_0f7a4_1 (hp16 hA) rfl ?_
  refine V_alen dJ5_newCapacity_0f7a4_4 hsb rfl ?_
  refine V_istore_n (i := 2) dJ5_newCapacity_0f7a4_5 rfl (by decide) ?_
  refine V_iload_n (i := 1) dJ5_newCapacity_0f7a4_6 rfl rfl ?_
  refine V_aload_n (i := 0) dJ5_newCapacity_0f7a4_7 rfl rfl ?_
  refine V_getf fl_J5_22 dJ5_newCapacity_0f7a4_8 (hp16 hA) rfl ?_
  refine V_ishl dJ5_newCapacity_0f7a4_11 ?_
  rw [shl0]
  refine V_istore_n (i := 3) dJ5_newCapacity_0f7a4_12 rfl (by decide) ?_
  refine V_iload_n (i := 3) dJ5_newCapacity_0f7a4_13 rfl rfl ?_
  refine V_iload_n (i := 2) dJ5_newCapacity_0f7a4_14 rfl rfl ?_
  refine V_isub dJ5_newCapacity_0f7a4_15 ?_
  refine V.eqst (st' := [.int (nI (k - 16))]) (congrArg (fun z => [Value.int z]) (pk_sub (a := k) (b := 16) (by omega))) ?_
  refine V_istore (i := 4) dJ5_newCapacity_0f7a4_16 (by decide) ?_
  refine V_iload_n (i := 2) dJ5_newCapacity_0f7a4_18 rfl rfl ?_
  refine V_iload (i := 4) dJ5_newCapacity_0f7a4_19 rfl ?_
  refine V_iload_n (i := 2) dJ5_newCapacity_0f7a4_21 rfl rfl ?_
  refine V_iconst (v := 2) dJ5_newCapacity_0f7a4_22 (by decide) ?_
  refine V_aload_n (i := 0) dJ5_newCapacity_0f7a4_23 rfl rfl ?_
  refine V_getf fl_J5_22 dJ5_newCapacity_0f7a4_24 (hp16 hA) rfl ?_
  refine V_ishl dJ5_newCapacity_0f7a4_27 ?_
  rw [shl0]
  refine V_iadd dJ5_newCapacity_0f7a4_28 ?_
  refine V.eqst (st' := [.int 18, .int (nI (k - 16)), .int 16]) rfl ?_
  refine Cx1_3 (d := 2) csx_J5_114 dJ5_newCapacity_0f7a4_29 (t_J8_newLength_cabcc (m := k - 16) (by omega)) (Nat.le_of_ble_eq_true rfl) ⟨Nat.le_refl _, Nat.le_refl _⟩ (by decide) ⟨Nat.le_of_ble_eq_true rfl, Nat.le_of_ble_eq_true rfl⟩ ?_
  refine V_istore (i := 5) dJ5_newCapacity_0f7a4_32 (by decide) ?_
  refine V_iload (i := 5) dJ5_newCapacity_0f7a4_34 rfl ?_
  refine V_ldcI kc_J5_39 dJ5_newCapacity_0f7a4_36 ?_
  refine V_icmp_ne (tgt := 51) dJ5_newCapacity_0f7a4_38 (by decide) (fun _ => ?_) (fun h38 => by first | exact absurd (by decide) h38 | exact absurd h38 (by decide))
  refine V_iload (i := 5) dJ5_newCapacity_0f7a4_51 rfl ?_
  refine V_aload_n (i := 0) dJ5_newCapacity_0f7a4_53 rfl rfl ?_
  refine V_getf fl_J5_22 dJ5_newCapacity_0f7a4_54 (hp16 hA) rfl ?_
  refine V_ishr dJ5_newCapacity_0f7a4_57 ?_
  rw [shr0]
  refine V_iret dJ5_newCapacity_0f7a4_58 rfl (Nat.le_of_ble_eq_true rfl) (Nat.le_of_ble_eq_true rfl) ?_
  exact ⟨rfl, rfl⟩

