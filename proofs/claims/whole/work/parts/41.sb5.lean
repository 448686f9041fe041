/-! the StringBuilder: numbers are appended -/
theorem dJ6_stringSize_0f7a4_0 : decode cJ6_stringSize_0f7a4 0 = .ok (.iconst 1, 1) := by decide +kernel
theorem dJ6_stringSize_0f7a4_1 : decode cJ6_stringSize_0f7a4 1 = .ok (.istore_n 1, 1) := by decide +kernel
theorem dJ6_stringSize_0f7a4_2 : decode cJ6_stringSize_0f7a4 2 = .ok (.iload_n 0, 1) := by decide +kernel
theorem dJ6_stringSize_0f7a4_3 : decode cJ6_stringSize_0f7a4 3 = .ok (.ifCond .lt 8, 3) := by decide +kernel
theorem dJ6_stringSize_0f7a4_6 : decode cJ6_stringSize_0f7a4 6 = .ok (.iconst 0, 1) := by decide +kernel
theorem dJ6_stringSize_0f7a4_7 : decode cJ6_stringSize_0f7a4 7 = .ok (.istore_n 1, 1) := by decide +kernel
theorem dJ6_stringSize_0f7a4_8 : decode cJ6_stringSize_0f7a4 8 = .ok (.iload_n 0, 1) := by decide +kernel
theorem dJ6_stringSize_0f7a4_9 : decode cJ6_stringSize_0f7a4 9 = .ok (.ineg, 1) := by decide +kernel
theorem dJ6_stringSize_0f7a4_10 : decode cJ6_stringSize_0f7a4 10 = .ok (.istore_n 0, 1) := by decide +kernel
theorem dJ6_stringSize_0f7a4_11 : decode cJ6_stringSize_0f7a4 11 = .ok (.bipush (-10), 2) := by decide +kernel
theorem dJ6_stringSize_0f7a4_13 : decode cJ6_stringSize_0f7a4 13 = .ok (.istore_n 2, 1) := by decide +kernel
theorem dJ6_stringSize_0f7a4_14 : decode cJ6_stringSize_0f7a4 14 = .ok (.iconst 1, 1) := by decide +kernel
theorem dJ6_stringSize_0f7a4_15 : decode cJ6_stringSize_0f7a4 15 = .ok (.istore_n 3, 1) := by decide +kernel
theorem dJ6_stringSize_0f7a4_16 : decode cJ6_stringSize_0f7a4 16 = .ok (.iload_n 3, 1) := by decide +kernel
theorem dJ6_stringSize_0f7a4_17 : decode cJ6_stringSize_0f7a4 17 = .ok (.bipush 10, 2) := by decide +kernel
theorem dJ6_stringSize_0f7a4_19 : decode cJ6_stringSize_0f7a4 19 = .ok (.if_icmp .ge 23, 3) := by decide +kernel
theorem dJ6_stringSize_0f7a4_22 : decode cJ6_stringSize_0f7a4 22 = .ok (.iload_n 0, 1) := by decide +kernel
theorem dJ6_stringSize_0f7a4_23 : decode cJ6_stringSize_0f7a4 23 = .ok (.iload_n 2, 1) := by decide +kernel
theorem dJ6_stringSize_0f7a4_24 : decode cJ6_stringSize_0f7a4 24 = .ok (.if_icmp .le 7, 3) := by decide +kernel
theorem dJ6_stringSize_0f7a4_27 : decode cJ6_stringSize_0f7a4 27 = .ok (.iload_n 3, 1) := by decide +kernel
theorem dJ6_stringSize_0f7a4_28 : decode cJ6_stringSize_0f7a4 28 = .ok (.iload_n 1, 1) := by decide +kernel
theorem dJ6_stringSize_0f7a4_29 : decode cJ6_stringSize_0f7a4 29 = .ok (.iadd, 1) := by decide +kernel
theorem dJ6_stringSize_0f7a4_30 : decode cJ6_stringSize_0f7a4 30 = .ok (.ireturn, 1) := by decide +kernel
theorem dJ6_stringSize_0f7a4_31 : decode cJ6_stringSize_0f7a4 31 = .ok (.bipush 10, 2) := by decide +kernel
theorem dJ6_stringSize_0f7a4_33 : decode cJ6_stringSize_0f7a4 33 = .ok (.iload_n 2, 1) := by decide +kernel
theorem dJ6_stringSize_0f7a4_34 : decode cJ6_stringSize_0f7a4 34 = .ok (.imul, 1) := by decide +kernel
theorem dJ6_stringSize_0f7a4_35 : decode cJ6_stringSize_0f7a4 35 = .ok (.istore_n 2, 1) := by decide +kernel
theorem dJ6_stringSize_0f7a4_36 : decode cJ6_stringSize_0f7a4 36 = .ok (.iinc 3 1, 3) := by decide +kernel
theorem dJ6_stringSize_0f7a4_39 : decode cJ6_stringSize_0f7a4 39 = .ok (.goto (-23), 3) := by decide +kernel
theorem dJ6_stringSize_0f7a4_42 : decode cJ6_stringSize_0f7a4 42 = .ok (.bipush 10, 2) := by decide +kernel
theorem dJ6_stringSize_0f7a4_44 : decode cJ6_stringSize_0f7a4 44 = .ok (.iload_n 1, 1) := by decide +kernel
theorem dJ6_stringSize_0f7a4_45 : decode cJ6_stringSize_0f7a4 45 = .ok (.iadd, 1) := by decide +kernel
theorem dJ6_stringSize_0f7a4_46 : decode cJ6_stringSize_0f7a4 46 = .ok (.ireturn, 1) := by decide +kernel
theorem dJ6_getChars_ba4f3_0 : decode cJ6_getChars_ba4f3 0 = .ok (.iload_n 1, 1) := by decide +kernel
theorem dJ6_getChars_ba4f3_1 : decode cJ6_getChars_ba4f3 1 = .ok (.istore 5, 2) := by decide +kernel
theorem dJ6_getChars_ba4f3_3 : decode cJ6_getChars_ba4f3 3 = .ok (.iload_n 0, 1) := by decide +kernel
theorem dJ6_getChars_ba4f3_4 : decode cJ6_getChars_ba4f3 4 = .ok (.ifCond .ge 7, 3) := by decide +kernel
theorem dJ6_getChars_ba4f3_7 : decode cJ6_getChars_ba4f3 7 = .ok (.iconst 1, 1) := by decide +kernel
theorem dJ6_getChars_ba4f3_8 : decode cJ6_getChars_ba4f3 8 = .ok (.goto 4, 3) := by decide +kernel
theorem dJ6_getChars_ba4f3_11 : decode cJ6_getChars_ba4f3 11 = .ok (.iconst 0, 1) := by decide +kernel
theorem dJ6_getChars_ba4f3_12 : decode cJ6_getChars_ba4f3 12 = .ok (.istore 6, 2) := by decide +kernel
theorem dJ6_getChars_ba4f3_14 : decode cJ6_getChars_ba4f3 14 = .ok (.iload 6, 2) := by decide +kernel
theorem dJ6_getChars_ba4f3_16 : decode cJ6_getChars_ba4f3 16 = .ok (.ifCond .ne 6, 3) := by decide +kernel
theorem dJ6_getChars_ba4f3_19 : decode cJ6_getChars_ba4f3 19 = .ok (.iload_n 0, 1) := by decide +kernel
theorem dJ6_getChars_ba4f3_20 : decode cJ6_getChars_ba4f3 20 = .ok (.ineg, 1) := by decide +kernel
theorem dJ6_getChars_ba4f3_21 : decode cJ6_getChars_ba4f3 21 = .ok (.istore_n 0, 1) := by decide +kernel
theorem dJ6_getChars_ba4f3_22 : decode cJ6_getChars_ba4f3 22 = .ok (.iload_n 0, 1) := by decide +kernel
theorem dJ6_getChars_ba4f3_23 : decode cJ6_getChars_ba4f3 23 = .ok (.bipush (-100), 2) := by decide +kernel
theorem dJ6_getChars_ba4f3_25 : decode cJ6_getChars_ba4f3 25 = .ok (.if_icmp .gt 47, 3) := by decide +kernel
theorem dJ6_getChars_ba4f3_28 : decode cJ6_getChars_ba4f3 28 = .ok (.iload_n 0, 1) := by decide +kernel
theorem dJ6_getChars_ba4f3_29 : decode cJ6_getChars_ba4f3 29 = .ok (.bipush 100, 2) := by decide +kernel
theorem dJ6_getChars_ba4f3_31 : decode cJ6_getChars_ba4f3 31 = .ok (.idiv, 1) := by decide +kernel
theorem dJ6_getChars_ba4f3_32 : decode cJ6_getChars_ba4f3 32 = .ok (.istore_n 3, 1) := by decide +kernel
theorem dJ6_getChars_ba4f3_33 : decode cJ6_getChars_ba4f3 33 = .ok (.iload_n 3, 1) := by decide +kernel
theorem dJ6_getChars_ba4f3_34 : decode cJ6_getChars_ba4f3 34 = .ok (.bipush 100, 2) := by decide +kernel
theorem dJ6_getChars_ba4f3_36 : decode cJ6_getChars_ba4f3 36 = .ok (.imul, 1) := by decide +kernel
theorem dJ6_getChars_ba4f3_37 : decode cJ6_getChars_ba4f3 37 = .ok (.iload_n 0, 1) := by decide +kernel
theorem dJ6_getChars_ba4f3_38 : decode cJ6_getChars_ba4f3 38 = .ok (.isub, 1) := by decide +kernel
theorem dJ6_getChars_ba4f3_39 : decode cJ6_getChars_ba4f3 39 = .ok (.istore 4, 2) := by decide +kernel
theorem dJ6_getChars_ba4f3_41 : decode cJ6_getChars_ba4f3 41 = .ok (.iload_n 3, 1) := by decide +kernel
theorem dJ6_getChars_ba4f3_42 : decode cJ6_getChars_ba4f3 42 = .ok (.istore_n 0, 1) := by decide +kernel
theorem dJ6_getChars_ba4f3_43 : decode cJ6_getChars_ba4f3 43 = .ok (.aload_n 2, 1) := by decide +kernel
theorem dJ6_getChars_ba4f3_44 : decode cJ6_getChars_ba4f3 44 = .ok (.iinc 5 (-1), 3) := by decide +kernel
theorem dJ6_getChars_ba4f3_47 : decode cJ6_getChars_ba4f3 47 = .ok (.iload 5, 2) := by decide +kernel
theorem dJ6_getChars_ba4f3_49 : decode cJ6_getChars_ba4f3 49 = .ok (.getstatic 83, 3) := by decide +kernel
theorem dJ6_getChars_ba4f3_52 : decode cJ6_getChars_ba4f3 52 = .ok (.iload 4, 2) := by decide +kernel
theorem dJ6_getChars_ba4f3_54 : decode cJ6_getChars_ba4f3 54 = .ok (.baload, 1) := by decide +kernel
theorem dJ6_getChars_ba4f3_55 : decode cJ6_getChars_ba4f3 55 = .ok (.bastore, 1) := by decide +kernel
theorem dJ6_getChars_ba4f3_56 : decode cJ6_getChars_ba4f3 56 = .ok (.aload_n 2, 1) := by decide +kernel
theorem dJ6_getChars_ba4f3_57 : decode cJ6_getChars_ba4f3 57 = .ok (.iinc 5 (-1), 3) := by decide +kernel
theorem dJ6_getChars_ba4f3_60 : decode cJ6_getChars_ba4f3 60 = .ok (.iload 5, 2) := by decide +kernel
theorem dJ6_getChars_ba4f3_62 : decode cJ6_getChars_ba4f3 62 = .ok (.getstatic 87, 3) := by decide +kernel
theorem dJ6_getChars_ba4f3_65 : decode cJ6_getChars_ba4f3 65 = .ok (.iload 4, 2) := by decide +kernel
theorem dJ6_getChars_ba4f3_67 : decode cJ6_getChars_ba4f3 67 = .ok (.baload, 1) := by decide +kernel
theorem dJ6_getChars_ba4f3_68 : decode cJ6_getChars_ba4f3 68 = .ok (.bastore, 1) := by decide +kernel
theorem dJ6_getChars_ba4f3_69 : decode cJ6_getChars_ba4f3 69 = .ok (.goto (-47), 3) := by decide +kernel
theorem dJ6_getChars_ba4f3_72 : decode cJ6_getChars_ba4f3 72 = .ok (.aload_n 2, 1) := by decide +kernel
theorem dJ6_getChars_ba4f3_73 : decode cJ6_getChars_ba4f3 73 = .ok (.iinc 5 (-1), 3) := by decide +kernel
theorem dJ6_getChars_ba4f3_76 : decode cJ6_getChars_ba4f3 76 = .ok (.iload 5, 2) := by decide +kernel
theorem dJ6_getChars_ba4f3_78 : decode cJ6_getChars_ba4f3 78 = .ok (.getstatic 83, 3) := by decide +kernel
theorem dJ6_getChars_ba4f3_81 : decode cJ6_getChars_ba4f3 81 = .ok (.iload_n 0, 1) := by decide +kernel
theorem dJ6_getChars_ba4f3_82 : decode cJ6_getChars_ba4f3 82 = .ok (.ineg, 1) := by decide +kernel
theorem dJ6_getChars_ba4f3_83 : decode cJ6_getChars_ba4f3 83 = .ok (.baload, 1) := by decide +kernel
theorem dJ6_getChars_ba4f3_84 : decode cJ6_getChars_ba4f3 84 = .ok (.bastore, 1) := by decide +kernel
theorem dJ6_getChars_ba4f3_85 : decode cJ6_getChars_ba4f3 85 = .ok (.iload_n 0, 1) := by decide +kernel
theorem dJ6_getChars_ba4f3_86 : decode cJ6_getChars_ba4f3 86 = .ok (.bipush (-9), 2) := by decide +kernel
theorem dJ6_getChars_ba4f3_88 : decode cJ6_getChars_ba4f3 88 = .ok (.if_icmp .ge 16, 3) := by decide +kernel
theorem dJ6_getChars_ba4f3_91 : decode cJ6_getChars_ba4f3 91 = .ok (.aload_n 2, 1) := by decide +kernel
theorem dJ6_getChars_ba4f3_92 : decode cJ6_getChars_ba4f3 92 = .ok (.iinc 5 (-1), 3) := by decide +kernel
theorem dJ6_getChars_ba4f3_95 : decode cJ6_getChars_ba4f3 95 = .ok (.iload 5, 2) := by decide +kernel
theorem dJ6_getChars_ba4f3_97 : decode cJ6_getChars_ba4f3 97 = .ok (.getstatic 87, 3) := by decide +kernel
theorem dJ6_getChars_ba4f3_100 : decode cJ6_getChars_ba4f3 100 = .ok (.iload_n 0, 1) := by decide +kernel
theorem dJ6_getChars_ba4f3_101 : decode cJ6_getChars_ba4f3 101 = .ok (.ineg, 1) := by decide +kernel
theorem dJ6_getChars_ba4f3_102 : decode cJ6_getChars_ba4f3 102 = .ok (.baload, 1) := by decide +kernel
theorem dJ6_getChars_ba4f3_103 : decode cJ6_getChars_ba4f3 103 = .ok (.bastore, 1) := by decide +kernel
theorem dJ6_getChars_ba4f3_104 : decode cJ6_getChars_ba4f3 104 = .ok (.iload 6, 2) := by decide +kernel
theorem dJ6_getChars_ba4f3_106 : decode cJ6_getChars_ba4f3 106 = .ok (.ifCond .eq 12, 3) := by decide +kernel
theorem dJ6_getChars_ba4f3_109 : decode cJ6_getChars_ba4f3 109 = .ok (.aload_n 2, 1) := by decide +kernel
theorem dJ6_getChars_ba4f3_110 : decode cJ6_getChars_ba4f3 110 = .ok (.iinc 5 (-1), 3) := by decide +kernel
theorem dJ6_getChars_ba4f3_113 : decode cJ6_getChars_ba4f3 113 = .ok (.iload 5, 2) := by decide +kernel
theorem dJ6_getChars_ba4f3_115 : decode cJ6_getChars_ba4f3 115 = .ok (.bipush 45, 2) := by decide +kernel
theorem dJ6_getChars_ba4f3_117 : decode cJ6_getChars_ba4f3 117 = .ok (.bastore, 1) := by decide +kernel
theorem dJ6_getChars_ba4f3_118 : decode cJ6_getChars_ba4f3 118 = .ok (.iload 5, 2) := by decide +kernel
theorem dJ6_getChars_ba4f3_120 : decode cJ6_getChars_ba4f3 120 = .ok (.ireturn, 1) := by decide +kernel
theorem dJ5_append_c97b9_0 : decode cJ5_append_c97b9 0 = .ok (.aload_n 0, 1) := by decide +kernel
theorem dJ5_append_c97b9_1 : decode cJ5_append_c97b9 1 = .ok (.getfield 79, 3) := by decide +kernel
theorem dJ5_append_c97b9_4 : decode cJ5_append_c97b9 4 = .ok (.istore_n 2, 1) := by decide +kernel
theorem dJ5_append_c97b9_5 : decode cJ5_append_c97b9 5 = .ok (.iload_n 2, 1) := by decide +kernel
theorem dJ5_append_c97b9_6 : decode cJ5_append_c97b9 6 = .ok (.iload_n 1, 1) := by decide +kernel
theorem dJ5_append_c97b9_7 : decode cJ5_append_c97b9 7 = .ok (.invokestatic 245, 3) := by decide +kernel
theorem dJ5_append_c97b9_10 : decode cJ5_append_c97b9 10 = .ok (.iadd, 1) := by decide +kernel
theorem dJ5_append_c97b9_11 : decode cJ5_append_c97b9 11 = .ok (.istore_n 3, 1) := by decide +kernel
theorem dJ5_append_c97b9_12 : decode cJ5_append_c97b9 12 = .ok (.aload_n 0, 1) := by decide +kernel
theorem dJ5_append_c97b9_13 : decode cJ5_append_c97b9 13 = .ok (.iload_n 3, 1) := by decide +kernel
theorem dJ5_append_c97b9_14 : decode cJ5_append_c97b9 14 = .ok (.invokevirtual 100, 3) := by decide +kernel
theorem dJ5_append_c97b9_17 : decode cJ5_append_c97b9 17 = .ok (.aload_n 0, 1) := by decide +kernel
theorem dJ5_append_c97b9_18 : decode cJ5_append_c97b9 18 = .ok (.invokevirtual 83, 3) := by decide +kernel
theorem dJ5_append_c97b9_21 : decode cJ5_append_c97b9 21 = .ok (.ifCond .eq 16, 3) := by decide +kernel
theorem dJ5_append_c97b9_24 : decode cJ5_append_c97b9 24 = .ok (.iload_n 1, 1) := by decide +kernel
theorem dJ5_append_c97b9_25 : decode cJ5_append_c97b9 25 = .ok (.iload_n 3, 1) := by decide +kernel
theorem dJ5_append_c97b9_26 : decode cJ5_append_c97b9 26 = .ok (.aload_n 0, 1) := by decide +kernel
theorem dJ5_append_c97b9_27 : decode cJ5_append_c97b9 27 = .ok (.getfield 15, 3) := by decide +kernel
theorem dJ5_append_c97b9_30 : decode cJ5_append_c97b9 30 = .ok (.invokestatic 248, 3) := by decide +kernel
theorem dJ5_append_c97b9_33 : decode cJ5_append_c97b9 33 = .ok (.pop, 1) := by decide +kernel
theorem dJ5_append_c97b9_34 : decode cJ5_append_c97b9 34 = .ok (.goto 14, 3) := by decide +kernel
theorem dJ5_append_c97b9_37 : decode cJ5_append_c97b9 37 = .ok (.iload_n 1, 1) := by decide +kernel
theorem dJ5_append_c97b9_38 : decode cJ5_append_c97b9 38 = .ok (.iload_n 2, 1) := by decide +kernel
theorem dJ5_append_c97b9_39 : decode cJ5_append_c97b9 39 = .ok (.iload_n 3, 1) := by decide +kernel
theorem dJ5_append_c97b9_40 : decode cJ5_append_c97b9 40 = .ok (.aload_n 0, 1) := by decide +kernel
theorem dJ5_append_c97b9_41 : decode cJ5_append_c97b9 41 = .ok (.getfield 15, 3) := by decide +kernel
theorem dJ5_append_c97b9_44 : decode cJ5_append_c97b9 44 = .ok (.invokestatic 251, 3) := by decide +kernel
theorem dJ5_append_c97b9_47 : decode cJ5_append_c97b9 47 = .ok (.pop, 1) := by decide +kernel
theorem dJ5_append_c97b9_48 : decode cJ5_append_c97b9 48 = .ok (.aload_n 0, 1) := by decide +kernel
theorem dJ5_append_c97b9_49 : decode cJ5_append_c97b9 49 = .ok (.iload_n 3, 1) := by decide +kernel
theorem dJ5_append_c97b9_50 : decode cJ5_append_c97b9 50 = .ok (.putfield 79, 3) := by decide +kernel
theorem dJ5_append_c97b9_53 : decode cJ5_append_c97b9 53 = .ok (.aload_n 0, 1) := by decide +kernel
theorem dJ5_append_c97b9_54 : decode cJ5_append_c97b9 54 = .ok (.areturn, 1) := by decide +kernel
theorem dJ4_append_bf812_0 : decode cJ4_append_bf812 0 = .ok (.aload_n 0, 1) := by decide +kernel
theorem dJ4_append_bf812_1 : decode cJ4_append_bf812 1 = .ok (.iload_n 1, 1) := by decide +kernel
theorem dJ4_append_bf812_2 : decode cJ4_append_bf812 2 = .ok (.invokespecial 53, 3) := by decide +kernel
theorem dJ4_append_bf812_5 : decode cJ4_append_bf812 5 = .ok (.pop, 1) := by decide +kernel
theorem dJ4_append_bf812_6 : decode cJ4_append_bf812 6 = .ok (.aload_n 0, 1) := by decide +kernel
theorem dJ4_append_bf812_7 : decode cJ4_append_bf812 7 = .ok (.areturn, 1) := by decide +kernel
theorem S0.ones {s0 : State} (h : S0 s0) : ∃ t, TabB s0 "java/lang/Integer" "DigitOnes" "[B" .byte 100 (fun j => nI (48 + j % 10)) t :=
  h.tab (by decide) (List.mem_of_getElem? (i := 1190) (by decide +kernel)) (List.mem_of_getElem? (i := 77) (by decide +kernel)) (fl_mem 45 (by decide +kernel)) (fl_mem 46 (by decide +kernel)) (fun j hj => fl_mem (47 + j) ((by decide +kernel : ∀ j, j < 100 → FLC[47 + j]? = some (Cond.eq (.elem (.static "java/lang/Integer" "DigitOnes" "[B") (.int (Int32.ofNat j))) (.int (nI (48 + j % 10))))) j hj))
theorem fb_J6_83 : Cond.fieldLink RJ6 83 "java/lang/Integer" "DigitOnes" "[B" ∈ WT := (wt_mem 1189 (by decide +kernel) (by decide +kernel))
theorem S0.tens {s0 : State} (h : S0 s0) : ∃ t, TabB s0 "java/lang/Integer" "DigitTens" "[B" .byte 100 (fun j => nI (48 + j / 10)) t :=
  h.tab (by decide) (List.mem_of_getElem? (i := 1192) (by decide +kernel)) (List.mem_of_getElem? (i := 77) (by decide +kernel)) (fl_mem 148 (by decide +kernel)) (fl_mem 149 (by decide +kernel)) (fun j hj => fl_mem (150 + j) ((by decide +kernel : ∀ j, j < 100 → FLC[150 + j]? = some (Cond.eq (.elem (.static "java/lang/Integer" "DigitTens" "[B") (.int (Int32.ofNat j))) (.int (nI (48 + j / 10))))) j hj))
theorem fb_J6_87 : Cond.fieldLink RJ6 87 "java/lang/Integer" "DigitTens" "[B" ∈ WT := (wt_mem 1191 (by decide +kernel) (by decide +kernel))
theorem ngl {v n : Nat} (hv : v < 1000) (hn : n < 1000) : (-nI v ≤ -nI n) ↔ n ≤ v := by
  have e : ∀ k, k < 1000 → (-nI k).toInt = -(k : Int) := fun k hk => by
    rw [← Int32.zero_sub, show (0 : Int32) = nI 0 from rfl, pk_sub_toInt (by omega) (by omega)]
    omega
  rw [Int32.le_iff_toInt_le, e v hv, e n hn]
  omega
theorem dec1 {k : Nat} (h : 1 ≤ k) : nI k + Int32.ofInt (-1) = nI (k - 1) := by
  rw [← pk_sub (a := k) (b := 1) h, Int32.sub_eq_add_neg]
  rfl
theorem gset_gset {G : GH} {a : Nat} {x y : EC} : gset (gset G a x) a y = gset G a y := by
  funext j
  unfold gset
  split <;> rfl
/-- how many digits, the digits -/
def dgN (v : Nat) : Nat := if v < 10 then 1 else 2
def dig (v : Nat) : List Nat := if v < 10 then [48 + v] else [48 + v / 10, 48 + v % 10]
theorem dig_len {v : Nat} : (dig v).length = dgN v := by
  unfold dig dgN
  split <;> rfl
/-- the digits laid in front of k -/
def gcF (f : Nat → Int32) (k v : Nat) : Nat → Int32 := if v < 10 then up f (k - 1) (nI (48 + v % 10)) else up (up f (k - 1) (nI (48 + v % 10))) (k - 2) (nI (48 + v / 10))


set_option maxHeartbeats 4000000 in
set_option maxRecDepth 100000 in
theorem t_J6_stringSize_0f7a4 {D : va_G} {s0 : State} {l : Launch} {G : GH} {v : Nat} (hv : v < 100) : Tri D s0 l yJ6_stringSize_0f7a4 cJ6_stringSize_0f7a4 4 ((some .int)) 0 0 0 [.int (nI v)] G (fun r G' => r = some (.int (nI (dgN v))) ∧ G' = G) noX := by
  refine Tri.ofV (own := RJ6) (mn := "stringSize") (by decide +kernel) rfl rfl (Nat.le_of_ble_eq_true rfl) ?_
  by_cases h10 : v < 10
  · refine V_iconst (v := 1) dJ6_stringSize_0f7a4_0 (by decide) ?_
    refine V_istore_n (i := 1) dJ6_stringSize_0f7a4_1 rfl (by decide) ?_
    refine V_iload_n (i := 0) dJ6_stringSize_0f7a4_2 rfl rfl ?_
    refine V_if_lt (tgt := 11) dJ6_stringSize_0f7a4_3 (by decide) (fun h3 => by first | exact absurd h3 ((nI_nn (by omega))) | exact absurd ((nI_nn (by omega))) h3) (fun _ => ?_)
    refine V_iconst (v := 0) dJ6_stringSize_0f7a4_6 (by decide) ?_
    refine V_istore_n (i := 1) dJ6_stringSize_0f7a4_7 rfl (by decide) ?_
    refine V_iload_n (i := 0) dJ6_stringSize_0f7a4_8 rfl rfl ?_
    refine V_ineg dJ6_stringSize_0f7a4_9 ?_
    refine V_istore_n (i := 0) dJ6_stringSize_0f7a4_10 rfl (by decide) ?_
    refine V_bipush (v := (-10)) dJ6_stringSize_0f7a4_11 (by decide) ?_
    refine V_istore_n (i := 2) dJ6_stringSize_0f7a4_13 rfl (by decide) ?_
    refine V_iconst (v := 1) dJ6_stringSize_0f7a4_14 (by decide) ?_
    refine V_istore_n (i := 3) dJ6_stringSize_0f7a4_15 rfl (by decide) ?_
    refine V_iload_n (i := 3) dJ6_stringSize_0f7a4_16 rfl rfl ?_
    refine V_bipush (v := 10) dJ6_stringSize_0f7a4_17 (by decide) ?_
    refine V_icmp_ge (tgt := 42) dJ6_stringSize_0f7a4_19 (by decide) (fun h19 => by first | exact absurd h19 ((by decide)) | exact absurd ((by decide)) h19) (fun _ => ?_)
    refine V_iload_n (i := 0) dJ6_stringSize_0f7a4_22 rfl rfl ?_
    refine V_iload_n (i := 2) dJ6_stringSize_0f7a4_23 rfl rfl ?_
    refine V_icmp_le (tgt := 31) dJ6_stringSize_0f7a4_24 (by decide) (fun h24 => by first | exact absurd h24 ((fun z => absurd ((ngl (n := 10) (by omega) (by decide)).mp z) (by omega))) | exact absurd ((fun z => absurd ((ngl (n := 10) (by omega) (by decide)).mp z) (by omega))) h24) (fun _ => ?_)
    refine V_iload_n (i := 3) dJ6_stringSize_0f7a4_27 rfl rfl ?_
    refine V_iload_n (i := 1) dJ6_stringSize_0f7a4_28 rfl rfl ?_
    refine V_iadd dJ6_stringSize_0f7a4_29 ?_
    refine V_iret dJ6_stringSize_0f7a4_30 rfl (Nat.le_of_ble_eq_true rfl) (Nat.le_of_ble_eq_true rfl) ?_
    exact ⟨by rw [dgN, if_pos h10]; rfl, rfl⟩
  · refine V_iconst (v := 1) dJ6_stringSize_0f7a4_0 (by decide) ?_
    refine V_istore_n (i := 1) dJ6_stringSize_0f7a4_1 rfl (by decide) ?_
    refine V_iload_n (i := 0) dJ6_stringSize_0f7a4_2 rfl rfl ?_
    refine V_if_lt (tgt := 11) dJ6_stringSize_0f7a4_3 (by decide) (fun h3 => by first | exact absurd h3 ((nI_nn (by omega))) | exact absurd ((nI_nn (by omega))) h3) (fun _ => ?_)
    refine V_iconst (v := 0) dJ6_stringSize_0f7a4_6 (by decide) ?_
    refine V_istore_n (i := 1) dJ6_stringSize_0f7a4_7 rfl (by decide) ?_
    refine V_iload_n (i := 0) dJ6_stringSize_0f7a4_8 rfl rfl ?_
    refine V_ineg dJ6_stringSize_0f7a4_9 ?_
    refine V_istore_n (i := 0) dJ6_stringSize_0f7a4_10 rfl (by decide) ?_
    refine V_bipush (v := (-10)) dJ6_stringSize_0f7a4_11 (by decide) ?_
    refine V_istore_n (i := 2) dJ6_stringSize_0f7a4_13 rfl (by decide) ?_
    refine V_iconst (v := 1) dJ6_stringSize_0f7a4_14 (by decide) ?_
    refine V_istore_n (i := 3) dJ6_stringSize_0f7a4_15 rfl (by decide) ?_
    refine V_iload_n (i := 3) dJ6_stringSize_0f7a4_16 rfl rfl ?_
    refine V_bipush (v := 10) dJ6_stringSize_0f7a4_17 (by decide) ?_
    refine V_icmp_ge (tgt := 42) dJ6_stringSize_0f7a4_19 (by decide) (fun h19 => by first | exact absurd h19 ((by decide)) | exact absurd ((by decide)) h19) (fun _ => ?_)
    refine V_iload_n (i := 0) dJ6_stringSize_0f7a4_22 rfl rfl ?_
    refine V_iload_n (i := 2) dJ6_stringSize_0f7a4_23 rfl rfl ?_
    refine V_icmp_le (tgt := 31) dJ6_stringSize_0f7a4_24 (by decide) (fun _ => ?_) (fun h24 => by first | exact absurd (((ngl (n := 10) (by omega) (by decide)).mpr (by omega))) h24 | exact absurd h24 (((ngl (n := 10) (by omega) (by decide)).mpr (by omega))))
    refine V_bipush (v := 10) dJ6_stringSize_0f7a4_31 (by decide) ?_
    refine V_iload_n (i := 2) dJ6_stringSize_0f7a4_33 rfl rfl ?_
    refine V_imul dJ6_stringSize_0f7a4_34 ?_
    refine V.eqst (st' := [.int (-nI 100)]) (by decide) ?_
    refine V_istore_n (i := 2) dJ6_stringSize_0f7a4_35 rfl (by decide) ?_
    refine V_iinc (i := 3) dJ6_stringSize_0f7a4_36 rfl rfl (by decide) ?_
    refine V_goto (tgt := 16) dJ6_stringSize_0f7a4_39 (by decide) ?_
    refine V_iload_n (i := 3) dJ6_stringSize_0f7a4_16 rfl rfl ?_
    refine V_bipush (v := 10) dJ6_stringSize_0f7a4_17 (by decide) ?_
    refine V_icmp_ge (tgt := 42) dJ6_stringSize_0f7a4_19 (by decide) (fun h19 => by first | exact absurd h19 ((by decide)) | exact absurd ((by decide)) h19) (fun _ => ?_)
    refine V_iload_n (i := 0) dJ6_stringSize_0f7a4_22 rfl rfl ?_
    refine V_iload_n (i := 2) dJ6_stringSize_0f7a4_23 rfl rfl ?_
    refine V_icmp_le (tgt := 31) dJ6_stringSize_0f7a4_24 (by decide) (fun h24 => by first | exact absurd h24 ((fun z => absurd ((ngl (n := 100) (by omega) (by decide)).mp z) (by omega))) | exact absurd ((fun z => absurd ((ngl (n := 100) (by omega) (by decide)).mp z) (by omega))) h24) (fun _ => ?_)
    refine V_iload_n (i := 3) dJ6_stringSize_0f7a4_27 rfl rfl ?_
    refine V_iload_n (i := 1) dJ6_stringSize_0f7a4_28 rfl rfl ?_
    refine V_iadd dJ6_stringSize_0f7a4_29 ?_
    refine V_iret dJ6_stringSize_0f7a4_30 rfl (Nat.le_of_ble_eq_true rfl) (Nat.le_of_ble_eq_true rfl) ?_
    exact ⟨by rw [dgN, if_neg h10]; rfl, rfl⟩

set_option maxHeartbeats 4000000 in
set_option maxRecDepth 100000 in
theorem t_J6_getChars_ba4f3 {D : va_G} {s0 : State} {l : Launch} {G : GH} {a N k v : Nat} {f : Nat → Int32} (hc : G a = some (.inr (.byte, N, fun j => .int (f j)))) (hN : N < 1000) (hv : v < 100) (hk : dgN v ≤ k) (hkN : k ≤ N) : Tri D s0 l yJ6_getChars_ba4f3 cJ6_getChars_ba4f3 7 ((some .int)) 0 0 0 [.int (nI v), .int (nI k), .ref a] G (fun r G' => (∃ x, r = some (.int x)) ∧ G' = gset G a (.inr (.byte, N, fun j => .int (gcF f k v j)))) noX := by
  refine tr_fr (fun h0 => ?_)
  obtain ⟨t1, hO⟩ := h0.ones
  obtain ⟨t2, hT⟩ := h0.tens
  have hk1 : 1 ≤ k := by unfold dgN at hk; split at hk <;> omega
  refine Tri.ofV (own := RJ6) (mn := "getChars") (by decide +kernel) rfl rfl (Nat.le_of_ble_eq_true rfl) ?_
  by_cases h10 : v < 10
  · refine V_iload_n (i := 1) dJ6_getChars_ba4f3_0 rfl rfl ?_
    refine V_istore (i := 5) dJ6_getChars_ba4f3_1 (by decide) ?_
    refine V_iload_n (i := 0) dJ6_getChars_ba4f3_3 rfl rfl ?_
    refine V_if_ge (tgt := 11) dJ6_getChars_ba4f3_4 (by decide) (fun _ => ?_) (fun h4 => by first | exact absurd ((Int32.not_lt.mp (nI_nn (by omega)))) h4 | exact absurd h4 ((Int32.not_lt.mp (nI_nn (by omega)))))
    refine V_iconst (v := 0) dJ6_getChars_ba4f3_11 (by decide) ?_
    refine V_istore (i := 6) dJ6_getChars_ba4f3_12 (by decide) ?_
    refine V_iload (i := 6) dJ6_getChars_ba4f3_14 rfl ?_
    refine V_if_ne (tgt := 22) dJ6_getChars_ba4f3_16 (by decide) (fun h16 => by first | exact absurd h16 (rfl) | exact absurd (rfl) h16) (fun _ => ?_)
    refine V_iload_n (i := 0) dJ6_getChars_ba4f3_19 rfl rfl ?_
    refine V_ineg dJ6_getChars_ba4f3_20 ?_
    refine V_istore_n (i := 0) dJ6_getChars_ba4f3_21 rfl (by decide) ?_
    refine V_iload_n (i := 0) dJ6_getChars_ba4f3_22 rfl rfl ?_
    refine V_bipush (v := (-100)) dJ6_getChars_ba4f3_23 (by decide) ?_
    refine V_icmp_gt (tgt := 72) dJ6_getChars_ba4f3_25 (by decide) (fun _ => ?_) (fun h25 => by first | exact absurd ((Int32.not_le.mp (fun z => absurd ((ngl (n := 100) (by omega) (by decide)).mp z) (by omega)))) h25 | exact absurd h25 ((Int32.not_le.mp (fun z => absurd ((ngl (n := 100) (by omega) (by decide)).mp z) (by omega)))))
    refine V_aload_n (i := 2) dJ6_getChars_ba4f3_72 rfl rfl ?_
    refine V_iinc (i := 5) dJ6_getChars_ba4f3_73 rfl (dec1 hk1) (by decide) ?_
    refine V_iload (i := 5) dJ6_getChars_ba4f3_76 rfl ?_
    refine V_gst hO.1 fb_J6_83 dJ6_getChars_ba4f3_78 ?_
    refine V_iload_n (i := 0) dJ6_getChars_ba4f3_81 rfl rfl ?_
    refine V_ineg dJ6_getChars_ba4f3_82 ?_
    refine V_tb hO.2 (Int32.neg_neg) hv (by decide) dJ6_getChars_ba4f3_83 ?_
    refine V_bast (n := N) (f := fun j => .int (f j)) dJ6_getChars_ba4f3_84 hc (vp_in_nI (by omega) (by omega)) ?_
    rw [(b128 (48 + v % 10) (by omega)).2, nI_clamp (by omega : k - 1 < 2 ^ 31), updV_up]
    refine V_iload_n (i := 0) dJ6_getChars_ba4f3_85 rfl rfl ?_
    refine V_bipush (v := (-9)) dJ6_getChars_ba4f3_86 (by decide) ?_
    refine V_icmp_ge (tgt := 104) dJ6_getChars_ba4f3_88 (by decide) (fun _ => ?_) (fun h88 => by first | exact absurd (((ngl (v := 9) (by decide) (by omega)).mpr (by omega))) h88 | exact absurd h88 (((ngl (v := 9) (by decide) (by omega)).mpr (by omega))))
    refine V_iload (i := 6) dJ6_getChars_ba4f3_104 rfl ?_
    refine V_if_eq (tgt := 118) dJ6_getChars_ba4f3_106 (by decide) (fun _ => ?_) (fun h106 => by first | exact absurd (rfl) h106 | exact absurd h106 (rfl))
    refine V_iload (i := 5) dJ6_getChars_ba4f3_118 rfl ?_
    refine V_iret dJ6_getChars_ba4f3_120 rfl (Nat.le_of_ble_eq_true rfl) (Nat.le_of_ble_eq_true rfl) ?_
    refine ⟨⟨_, rfl⟩, ?_⟩
    rw [gcF, if_pos h10]
  · have hk2 : 2 ≤ k := by unfold dgN at hk; rw [if_neg h10] at hk; exact hk
    refine V_iload_n (i := 1) dJ6_getChars_ba4f3_0 rfl rfl ?_
    refine V_istore (i := 5) dJ6_getChars_ba4f3_1 (by decide) ?_
    refine V_iload_n (i := 0) dJ6_getChars_ba4f3_3 rfl rfl ?_
    refine V_if_ge (tgt := 11) dJ6_getChars_ba4f3_4 (by decide) (fun _ => ?_) (fun h4 => by first | exact absurd ((Int32.not_lt.mp (nI_nn (by omega)))) h4 | exact absurd h4 ((Int32.not_lt.mp (nI_nn (by omega)))))
    refine V_iconst (v := 0) dJ6_getChars_ba4f3_11 (by decide) ?_
    refine V_istore (i := 6) dJ6_getChars_ba4f3_12 (by decide) ?_
    refine V_iload (i := 6) dJ6_getChars_ba4f3_14 rfl ?_
    refine V_if_ne (tgt := 22) dJ6_getChars_ba4f3_16 (by decide) (fun h16 => by first | exact absurd h16 (rfl) | exact absurd (rfl) h16) (fun _ => ?_)
    refine V_iload_n (i := 0) dJ6_getChars_ba4f3_19 rfl rfl ?_
    refine V_ineg dJ6_getChars_ba4f3_20 ?_
    refine V_istore_n (i := 0) dJ6_getChars_ba4f3_21 rfl (by decide) ?_
    refine V_iload_n (i := 0) dJ6_getChars_ba4f3_22 rfl rfl ?_
    refine V_bipush (v := (-100)) dJ6_getChars_ba4f3_23 (by decide) ?_
    refine V_icmp_gt (tgt := 72) dJ6_getChars_ba4f3_25 (by decide) (fun _ => ?_) (fun h25 => by first | exact absurd ((Int32.not_le.mp (fun z => absurd ((ngl (n := 100) (by omega) (by decide)).mp z) (by omega)))) h25 | exact absurd h25 ((Int32.not_le.mp (fun z => absurd ((ngl (n := 100) (by omega) (by decide)).mp z) (by omega)))))
    refine V_aload_n (i := 2) dJ6_getChars_ba4f3_72 rfl rfl ?_
    refine V_iinc (i := 5) dJ6_getChars_ba4f3_73 rfl (dec1 hk1) (by decide) ?_
    refine V_iload (i := 5) dJ6_getChars_ba4f3_76 rfl ?_
    refine V_gst hO.1 fb_J6_83 dJ6_getChars_ba4f3_78 ?_
    refine V_iload_n (i := 0) dJ6_getChars_ba4f3_81 rfl rfl ?_
    refine V_ineg dJ6_getChars_ba4f3_82 ?_
    refine V_tb hO.2 (Int32.neg_neg) hv (by decide) dJ6_getChars_ba4f3_83 ?_
    refine V_bast (n := N) (f := fun j => .int (f j)) dJ6_getChars_ba4f3_84 hc (vp_in_nI (by omega) (by omega)) ?_
    rw [(b128 (48 + v % 10) (by omega)).2, nI_clamp (by omega : k - 1 < 2 ^ 31), updV_up]
    refine V_iload_n (i := 0) dJ6_getChars_ba4f3_85 rfl rfl ?_
    refine V_bipush (v := (-9)) dJ6_getChars_ba4f3_86 (by decide) ?_
    refine V_icmp_ge (tgt := 104) dJ6_getChars_ba4f3_88 (by decide) (fun h88 => by first | exact absurd h88 ((fun z => absurd ((ngl (v := 9) (by decide) (by omega)).mp z) (by omega))) | exact absurd ((fun z => absurd ((ngl (v := 9) (by decide) (by omega)).mp z) (by omega))) h88) (fun _ => ?_)
    refine V_aload_n (i := 2) dJ6_getChars_ba4f3_91 rfl rfl ?_
    refine V_iinc (i := 5) dJ6_getChars_ba4f3_92 rfl ((dec1 (by omega)).trans (congrArg nI (show k - 1 - 1 = k - 2 by omega))) (by decide) ?_
    refine V_iload (i := 5) dJ6_getChars_ba4f3_95 rfl ?_
    refine V_gst hT.1 fb_J6_87 dJ6_getChars_ba4f3_97 ?_
    refine V_iload_n (i := 0) dJ6_getChars_ba4f3_100 rfl rfl ?_
    refine V_ineg dJ6_getChars_ba4f3_101 ?_
    refine V_tb hT.2 (Int32.neg_neg) hv (by decide) dJ6_getChars_ba4f3_102 ?_
    refine V_bast (n := N) (f := fun j => .int (up f (k - 1) (nI (48 + v % 10)) j)) dJ6_getChars_ba4f3_103 (if_pos rfl) (vp_in_nI (by omega) (by omega)) ?_
    rw [(b128 (48 + v / 10) (by omega)).2, nI_clamp (by omega : k - 2 < 2 ^ 31), updV_up]
    refine V.eqG gset_gset ?_
    refine V_iload (i := 6) dJ6_getChars_ba4f3_104 rfl ?_
    refine V_if_eq (tgt := 118) dJ6_getChars_ba4f3_106 (by decide) (fun _ => ?_) (fun h106 => by first | exact absurd (rfl) h106 | exact absurd h106 (rfl))
    refine V_iload (i := 5) dJ6_getChars_ba4f3_118 rfl ?_
    refine V_iret dJ6_getChars_ba4f3_120 rfl (Nat.le_of_ble_eq_true rfl) (Nat.le_of_ble_eq_true rfl) ?_
    refine ⟨⟨_, rfl⟩, ?_⟩
    rw [gcF, if_neg h10]

