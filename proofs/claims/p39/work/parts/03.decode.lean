theorem dX0_init_0 : decode cX0_init 0 = .ok (.aload_n 0, 1) := by decide +kernel
theorem dX0_init_1 : decode cX0_init 1 = .ok (.invokespecial 3, 3) := by decide +kernel
theorem dX0_init_4 : decode cX0_init 4 = .ok (.return_, 1) := by decide +kernel
theorem dX0_copyFrom_0 : decode cX0_copyFrom 0 = .ok (.aload_n 0, 1) := by decide +kernel
theorem dX0_copyFrom_1 : decode cX0_copyFrom 1 = .ok (.aload_n 1, 1) := by decide +kernel
theorem dX0_copyFrom_2 : decode cX0_copyFrom 2 = .ok (.getfield 9, 3) := by decide +kernel
theorem dX0_copyFrom_5 : decode cX0_copyFrom 5 = .ok (.putfield 9, 3) := by decide +kernel
theorem dX0_copyFrom_8 : decode cX0_copyFrom 8 = .ok (.aload_n 0, 1) := by decide +kernel
theorem dX0_copyFrom_9 : decode cX0_copyFrom 9 = .ok (.aload_n 1, 1) := by decide +kernel
theorem dX0_copyFrom_10 : decode cX0_copyFrom 10 = .ok (.getfield 15, 3) := by decide +kernel
theorem dX0_copyFrom_13 : decode cX0_copyFrom 13 = .ok (.putfield 15, 3) := by decide +kernel
theorem dX0_copyFrom_16 : decode cX0_copyFrom 16 = .ok (.aload_n 0, 1) := by decide +kernel
theorem dX0_copyFrom_17 : decode cX0_copyFrom 17 = .ok (.aload_n 1, 1) := by decide +kernel
theorem dX0_copyFrom_18 : decode cX0_copyFrom 18 = .ok (.getfield 18, 3) := by decide +kernel
theorem dX0_copyFrom_21 : decode cX0_copyFrom 21 = .ok (.putfield 18, 3) := by decide +kernel
theorem dX0_copyFrom_24 : decode cX0_copyFrom 24 = .ok (.aload_n 0, 1) := by decide +kernel
theorem dX0_copyFrom_25 : decode cX0_copyFrom 25 = .ok (.aload_n 1, 1) := by decide +kernel
theorem dX0_copyFrom_26 : decode cX0_copyFrom 26 = .ok (.getfield 21, 3) := by decide +kernel
theorem dX0_copyFrom_29 : decode cX0_copyFrom 29 = .ok (.putfield 21, 3) := by decide +kernel
theorem dX0_copyFrom_32 : decode cX0_copyFrom 32 = .ok (.return_, 1) := by decide +kernel
theorem dX0_number_0 : decode cX0_number 0 = .ok (.iload_n 1, 1) := by decide +kernel
theorem dX0_number_1 : decode cX0_number 1 = .ok (.tableswitch 42 0 2 #[27, 32, 37], 27) := by decide +kernel
theorem dX0_number_28 : decode cX0_number 28 = .ok (.aload_n 0, 1) := by decide +kernel
theorem dX0_number_29 : decode cX0_number 29 = .ok (.getfield 9, 3) := by decide +kernel
theorem dX0_number_32 : decode cX0_number 32 = .ok (.ireturn, 1) := by decide +kernel
theorem dX0_number_33 : decode cX0_number 33 = .ok (.aload_n 0, 1) := by decide +kernel
theorem dX0_number_34 : decode cX0_number 34 = .ok (.getfield 15, 3) := by decide +kernel
theorem dX0_number_37 : decode cX0_number 37 = .ok (.ireturn, 1) := by decide +kernel
theorem dX0_number_38 : decode cX0_number 38 = .ok (.aload_n 0, 1) := by decide +kernel
theorem dX0_number_39 : decode cX0_number 39 = .ok (.getfield 18, 3) := by decide +kernel
theorem dX0_number_42 : decode cX0_number 42 = .ok (.ireturn, 1) := by decide +kernel
theorem dX0_number_43 : decode cX0_number 43 = .ok (.aload_n 0, 1) := by decide +kernel
theorem dX0_number_44 : decode cX0_number 44 = .ok (.getfield 21, 3) := by decide +kernel
theorem dX0_number_47 : decode cX0_number 47 = .ok (.ireturn, 1) := by decide +kernel
theorem dX0_tiredByASack_0 : decode cX0_tiredByASack 0 = .ok (.iconst 5, 1) := by decide +kernel
theorem dX0_tiredByASack_1 : decode cX0_tiredByASack 1 = .ok (.aload_n 0, 1) := by decide +kernel
theorem dX0_tiredByASack_2 : decode cX0_tiredByASack 2 = .ok (.getfield 9, 3) := by decide +kernel
theorem dX0_tiredByASack_5 : decode cX0_tiredByASack 5 = .ok (.iadd, 1) := by decide +kernel
theorem dX0_tiredByASack_6 : decode cX0_tiredByASack 6 = .ok (.istore_n 2, 1) := by decide +kernel
theorem dX0_tiredByASack_7 : decode cX0_tiredByASack 7 = .ok (.iload_n 2, 1) := by decide +kernel
theorem dX0_tiredByASack_8 : decode cX0_tiredByASack 8 = .ok (.ifCond .gt 7, 3) := by decide +kernel
theorem dX0_tiredByASack_11 : decode cX0_tiredByASack 11 = .ok (.iconst 1, 1) := by decide +kernel
theorem dX0_tiredByASack_12 : decode cX0_tiredByASack 12 = .ok (.goto 14, 3) := by decide +kernel
theorem dX0_tiredByASack_15 : decode cX0_tiredByASack 15 = .ok (.iconst 1, 1) := by decide +kernel
theorem dX0_tiredByASack_16 : decode cX0_tiredByASack 16 = .ok (.bipush 6, 2) := by decide +kernel
theorem dX0_tiredByASack_18 : decode cX0_tiredByASack 18 = .ok (.aload_n 1, 1) := by decide +kernel
theorem dX0_tiredByASack_19 : decode cX0_tiredByASack 19 = .ok (.getfield 24, 3) := by decide +kernel
theorem dX0_tiredByASack_22 : decode cX0_tiredByASack 22 = .ok (.imul, 1) := by decide +kernel
theorem dX0_tiredByASack_23 : decode cX0_tiredByASack 23 = .ok (.iload_n 2, 1) := by decide +kernel
theorem dX0_tiredByASack_24 : decode cX0_tiredByASack 24 = .ok (.idiv, 1) := by decide +kernel
theorem dX0_tiredByASack_25 : decode cX0_tiredByASack 25 = .ok (.iadd, 1) := by decide +kernel
theorem dX0_tiredByASack_26 : decode cX0_tiredByASack 26 = .ok (.ireturn, 1) := by decide +kernel
theorem dX0_carrySack_0 : decode cX0_carrySack 0 = .ok (.aload_n 0, 1) := by decide +kernel
theorem dX0_carrySack_1 : decode cX0_carrySack 1 = .ok (.dup, 1) := by decide +kernel
theorem dX0_carrySack_2 : decode cX0_carrySack 2 = .ok (.getfield 15, 3) := by decide +kernel
theorem dX0_carrySack_5 : decode cX0_carrySack 5 = .ok (.aload_n 0, 1) := by decide +kernel
theorem dX0_carrySack_6 : decode cX0_carrySack 6 = .ok (.aload_n 1, 1) := by decide +kernel
theorem dX0_carrySack_7 : decode cX0_carrySack 7 = .ok (.invokevirtual 29, 3) := by decide +kernel
theorem dX0_carrySack_10 : decode cX0_carrySack 10 = .ok (.iadd, 1) := by decide +kernel
theorem dX0_carrySack_11 : decode cX0_carrySack 11 = .ok (.putfield 15, 3) := by decide +kernel
theorem dX0_carrySack_14 : decode cX0_carrySack 14 = .ok (.aload_n 0, 1) := by decide +kernel
theorem dX0_carrySack_15 : decode cX0_carrySack 15 = .ok (.bipush 9, 2) := by decide +kernel
theorem dX0_carrySack_17 : decode cX0_carrySack 17 = .ok (.aload_n 0, 1) := by decide +kernel
theorem dX0_carrySack_18 : decode cX0_carrySack 18 = .ok (.getfield 18, 3) := by decide +kernel
theorem dX0_carrySack_21 : decode cX0_carrySack 21 = .ok (.iconst 1, 1) := by decide +kernel
theorem dX0_carrySack_22 : decode cX0_carrySack 22 = .ok (.iadd, 1) := by decide +kernel
theorem dX0_carrySack_23 : decode cX0_carrySack 23 = .ok (.invokestatic 33, 3) := by decide +kernel
theorem dX0_carrySack_26 : decode cX0_carrySack 26 = .ok (.putfield 18, 3) := by decide +kernel
theorem dX0_carrySack_29 : decode cX0_carrySack 29 = .ok (.aload_n 0, 1) := by decide +kernel
theorem dX0_carrySack_30 : decode cX0_carrySack 30 = .ok (.dup, 1) := by decide +kernel
theorem dX0_carrySack_31 : decode cX0_carrySack 31 = .ok (.getfield 21, 3) := by decide +kernel
theorem dX0_carrySack_34 : decode cX0_carrySack 34 = .ok (.iconst 1, 1) := by decide +kernel
theorem dX0_carrySack_35 : decode cX0_carrySack 35 = .ok (.iadd, 1) := by decide +kernel
theorem dX0_carrySack_36 : decode cX0_carrySack 36 = .ok (.putfield 21, 3) := by decide +kernel
theorem dX0_carrySack_39 : decode cX0_carrySack 39 = .ok (.aload_n 1, 1) := by decide +kernel
theorem dX0_carrySack_40 : decode cX0_carrySack 40 = .ok (.aload_n 0, 1) := by decide +kernel
theorem dX0_carrySack_41 : decode cX0_carrySack 41 = .ok (.getfield 18, 3) := by decide +kernel
theorem dX0_carrySack_44 : decode cX0_carrySack 44 = .ok (.invokevirtual 39, 3) := by decide +kernel
theorem dX0_carrySack_47 : decode cX0_carrySack 47 = .ok (.return_, 1) := by decide +kernel
theorem dX0_beginDay_0 : decode cX0_beginDay 0 = .ok (.aload_n 0, 1) := by decide +kernel
theorem dX0_beginDay_1 : decode cX0_beginDay 1 = .ok (.iconst 0, 1) := by decide +kernel
theorem dX0_beginDay_2 : decode cX0_beginDay 2 = .ok (.aload_n 0, 1) := by decide +kernel
theorem dX0_beginDay_3 : decode cX0_beginDay 3 = .ok (.getfield 15, 3) := by decide +kernel
theorem dX0_beginDay_6 : decode cX0_beginDay 6 = .ok (.bipush 8, 2) := by decide +kernel
theorem dX0_beginDay_8 : decode cX0_beginDay 8 = .ok (.isub, 1) := by decide +kernel
theorem dX0_beginDay_9 : decode cX0_beginDay 9 = .ok (.invokestatic 43, 3) := by decide +kernel
theorem dX0_beginDay_12 : decode cX0_beginDay 12 = .ok (.putfield 15, 3) := by decide +kernel
theorem dX0_beginDay_15 : decode cX0_beginDay 15 = .ok (.aload_n 0, 1) := by decide +kernel
theorem dX0_beginDay_16 : decode cX0_beginDay 16 = .ok (.iconst 0, 1) := by decide +kernel
theorem dX0_beginDay_17 : decode cX0_beginDay 17 = .ok (.putfield 18, 3) := by decide +kernel
theorem dX0_beginDay_20 : decode cX0_beginDay 20 = .ok (.return_, 1) := by decide +kernel
theorem dX1_init_0 : decode cX1_init 0 = .ok (.aload_n 0, 1) := by decide +kernel
theorem dX1_init_1 : decode cX1_init 1 = .ok (.invokespecial 3, 3) := by decide +kernel
theorem dX1_init_4 : decode cX1_init 4 = .ok (.aload_n 0, 1) := by decide +kernel
theorem dX1_init_5 : decode cX1_init 5 = .ok (.bipush 60, 2) := by decide +kernel
theorem dX1_init_7 : decode cX1_init 7 = .ok (.newarray .char, 2) := by decide +kernel
theorem dX1_init_9 : decode cX1_init 9 = .ok (.putfield 9, 3) := by decide +kernel
theorem dX1_init_12 : decode cX1_init 12 = .ok (.aload_n 0, 1) := by decide +kernel
theorem dX1_init_13 : decode cX1_init 13 = .ok (.bipush 30, 2) := by decide +kernel
theorem dX1_init_15 : decode cX1_init 15 = .ok (.newarray .int, 2) := by decide +kernel
theorem dX1_init_17 : decode cX1_init 17 = .ok (.putfield 15, 3) := by decide +kernel
theorem dX1_init_20 : decode cX1_init 20 = .ok (.aload_n 0, 1) := by decide +kernel
theorem dX1_init_21 : decode cX1_init 21 = .ok (.bipush 30, 2) := by decide +kernel
theorem dX1_init_23 : decode cX1_init 23 = .ok (.newarray .int, 2) := by decide +kernel
theorem dX1_init_25 : decode cX1_init 25 = .ok (.putfield 19, 3) := by decide +kernel
theorem dX1_init_28 : decode cX1_init 28 = .ok (.aload_n 0, 1) := by decide +kernel
theorem dX1_init_29 : decode cX1_init 29 = .ok (.bipush 30, 2) := by decide +kernel
theorem dX1_init_31 : decode cX1_init 31 = .ok (.newarray .int, 2) := by decide +kernel
theorem dX1_init_33 : decode cX1_init 33 = .ok (.putfield 22, 3) := by decide +kernel
theorem dX1_init_36 : decode cX1_init 36 = .ok (.return_, 1) := by decide +kernel
theorem dX2_init_0 : decode cX2_init 0 = .ok (.aload_n 0, 1) := by decide +kernel
theorem dX2_init_1 : decode cX2_init 1 = .ok (.invokespecial 3, 3) := by decide +kernel
theorem dX2_init_4 : decode cX2_init 4 = .ok (.aload_n 0, 1) := by decide +kernel
theorem dX2_init_5 : decode cX2_init 5 = .ok (.bipush 9, 2) := by decide +kernel
theorem dX2_init_7 : decode cX2_init 7 = .ok (.anewarray 11, 3) := by decide +kernel
theorem dX2_init_10 : decode cX2_init 10 = .ok (.putfield 13, 3) := by decide +kernel
theorem dX2_init_13 : decode cX2_init 13 = .ok (.iconst 0, 1) := by decide +kernel
theorem dX2_init_14 : decode cX2_init 14 = .ok (.istore_n 1, 1) := by decide +kernel
theorem dX2_init_15 : decode cX2_init 15 = .ok (.iload_n 1, 1) := by decide +kernel
theorem dX2_init_16 : decode cX2_init 16 = .ok (.bipush 9, 2) := by decide +kernel
theorem dX2_init_18 : decode cX2_init 18 = .ok (.if_icmp .ge 22, 3) := by decide +kernel
theorem dX2_init_21 : decode cX2_init 21 = .ok (.aload_n 0, 1) := by decide +kernel
theorem dX2_init_22 : decode cX2_init 22 = .ok (.getfield 13, 3) := by decide +kernel
theorem dX2_init_25 : decode cX2_init 25 = .ok (.iload_n 1, 1) := by decide +kernel
theorem dX2_init_26 : decode cX2_init 26 = .ok (.new 11, 3) := by decide +kernel
theorem dX2_init_29 : decode cX2_init 29 = .ok (.dup, 1) := by decide +kernel
theorem dX2_init_30 : decode cX2_init 30 = .ok (.invokespecial 17, 3) := by decide +kernel
theorem dX2_init_33 : decode cX2_init 33 = .ok (.aastore, 1) := by decide +kernel
theorem dX2_init_34 : decode cX2_init 34 = .ok (.iinc 1 1, 3) := by decide +kernel
theorem dX2_init_37 : decode cX2_init 37 = .ok (.goto (-22), 3) := by decide +kernel
theorem dX2_init_40 : decode cX2_init 40 = .ok (.return_, 1) := by decide +kernel
theorem dX2_note_0 : decode cX2_note 0 = .ok (.aload_n 0, 1) := by decide +kernel
theorem dX2_note_1 : decode cX2_note 1 = .ok (.getfield 13, 3) := by decide +kernel
theorem dX2_note_4 : decode cX2_note 4 = .ok (.aload_n 0, 1) := by decide +kernel
theorem dX2_note_5 : decode cX2_note 5 = .ok (.getfield 18, 3) := by decide +kernel
theorem dX2_note_8 : decode cX2_note 8 = .ok (.aaload, 1) := by decide +kernel
theorem dX2_note_9 : decode cX2_note 9 = .ok (.aload_n 1, 1) := by decide +kernel
theorem dX2_note_10 : decode cX2_note 10 = .ok (.invokevirtual 22, 3) := by decide +kernel
theorem dX2_note_13 : decode cX2_note 13 = .ok (.return_, 1) := by decide +kernel
theorem dX2_keepNoted_0 : decode cX2_keepNoted 0 = .ok (.aload_n 0, 1) := by decide +kernel
theorem dX2_keepNoted_1 : decode cX2_keepNoted 1 = .ok (.aload_n 0, 1) := by decide +kernel
theorem dX2_keepNoted_2 : decode cX2_keepNoted 2 = .ok (.getfield 18, 3) := by decide +kernel
theorem dX2_keepNoted_5 : decode cX2_keepNoted 5 = .ok (.iconst 1, 1) := by decide +kernel
theorem dX2_keepNoted_6 : decode cX2_keepNoted 6 = .ok (.iadd, 1) := by decide +kernel
theorem dX2_keepNoted_7 : decode cX2_keepNoted 7 = .ok (.bipush 9, 2) := by decide +kernel
theorem dX2_keepNoted_9 : decode cX2_keepNoted 9 = .ok (.irem, 1) := by decide +kernel
theorem dX2_keepNoted_10 : decode cX2_keepNoted 10 = .ok (.putfield 18, 3) := by decide +kernel
theorem dX2_keepNoted_13 : decode cX2_keepNoted 13 = .ok (.aload_n 0, 1) := by decide +kernel
theorem dX2_keepNoted_14 : decode cX2_keepNoted 14 = .ok (.bipush 8, 2) := by decide +kernel
theorem dX2_keepNoted_16 : decode cX2_keepNoted 16 = .ok (.aload_n 0, 1) := by decide +kernel
theorem dX2_keepNoted_17 : decode cX2_keepNoted 17 = .ok (.getfield 26, 3) := by decide +kernel
theorem dX2_keepNoted_20 : decode cX2_keepNoted 20 = .ok (.iconst 1, 1) := by decide +kernel
theorem dX2_keepNoted_21 : decode cX2_keepNoted 21 = .ok (.iadd, 1) := by decide +kernel
theorem dX2_keepNoted_22 : decode cX2_keepNoted 22 = .ok (.invokestatic 29, 3) := by decide +kernel
theorem dX2_keepNoted_25 : decode cX2_keepNoted 25 = .ok (.putfield 26, 3) := by decide +kernel
theorem dX2_keepNoted_28 : decode cX2_keepNoted 28 = .ok (.return_, 1) := by decide +kernel
theorem dX3_init_0 : decode cX3_init 0 = .ok (.aload_n 0, 1) := by decide +kernel
theorem dX3_init_1 : decode cX3_init 1 = .ok (.invokespecial 3, 3) := by decide +kernel
theorem dX3_init_4 : decode cX3_init 4 = .ok (.return_, 1) := by decide +kernel
theorem dX3_copyFrom_0 : decode cX3_copyFrom 0 = .ok (.aload_n 0, 1) := by decide +kernel
theorem dX3_copyFrom_1 : decode cX3_copyFrom 1 = .ok (.aload_n 1, 1) := by decide +kernel
theorem dX3_copyFrom_2 : decode cX3_copyFrom 2 = .ok (.getfield 9, 3) := by decide +kernel
theorem dX3_copyFrom_5 : decode cX3_copyFrom 5 = .ok (.putfield 9, 3) := by decide +kernel
theorem dX3_copyFrom_8 : decode cX3_copyFrom 8 = .ok (.aload_n 0, 1) := by decide +kernel
theorem dX3_copyFrom_9 : decode cX3_copyFrom 9 = .ok (.aload_n 1, 1) := by decide +kernel
theorem dX3_copyFrom_10 : decode cX3_copyFrom 10 = .ok (.getfield 15, 3) := by decide +kernel
theorem dX3_copyFrom_13 : decode cX3_copyFrom 13 = .ok (.putfield 15, 3) := by decide +kernel
theorem dX3_copyFrom_16 : decode cX3_copyFrom 16 = .ok (.aload_n 0, 1) := by decide +kernel
theorem dX3_copyFrom_17 : decode cX3_copyFrom 17 = .ok (.aload_n 1, 1) := by decide +kernel
theorem dX3_copyFrom_18 : decode cX3_copyFrom 18 = .ok (.getfield 18, 3) := by decide +kernel
theorem dX3_copyFrom_21 : decode cX3_copyFrom 21 = .ok (.putfield 18, 3) := by decide +kernel
theorem dX3_copyFrom_24 : decode cX3_copyFrom 24 = .ok (.aload_n 0, 1) := by decide +kernel
theorem dX3_copyFrom_25 : decode cX3_copyFrom 25 = .ok (.aload_n 1, 1) := by decide +kernel
theorem dX3_copyFrom_26 : decode cX3_copyFrom 26 = .ok (.getfield 21, 3) := by decide +kernel
theorem dX3_copyFrom_29 : decode cX3_copyFrom 29 = .ok (.putfield 21, 3) := by decide +kernel
theorem dX3_copyFrom_32 : decode cX3_copyFrom 32 = .ok (.aload_n 0, 1) := by decide +kernel
theorem dX3_copyFrom_33 : decode cX3_copyFrom 33 = .ok (.aload_n 1, 1) := by decide +kernel
theorem dX3_copyFrom_34 : decode cX3_copyFrom 34 = .ok (.getfield 24, 3) := by decide +kernel
theorem dX3_copyFrom_37 : decode cX3_copyFrom 37 = .ok (.putfield 24, 3) := by decide +kernel
theorem dX3_copyFrom_40 : decode cX3_copyFrom 40 = .ok (.aload_n 0, 1) := by decide +kernel
theorem dX3_copyFrom_41 : decode cX3_copyFrom 41 = .ok (.aload_n 1, 1) := by decide +kernel
theorem dX3_copyFrom_42 : decode cX3_copyFrom 42 = .ok (.getfield 27, 3) := by decide +kernel
theorem dX3_copyFrom_45 : decode cX3_copyFrom 45 = .ok (.putfield 27, 3) := by decide +kernel
theorem dX3_copyFrom_48 : decode cX3_copyFrom 48 = .ok (.aload_n 0, 1) := by decide +kernel
theorem dX3_copyFrom_49 : decode cX3_copyFrom 49 = .ok (.aload_n 1, 1) := by decide +kernel
theorem dX3_copyFrom_50 : decode cX3_copyFrom 50 = .ok (.getfield 30, 3) := by decide +kernel
theorem dX3_copyFrom_53 : decode cX3_copyFrom 53 = .ok (.putfield 30, 3) := by decide +kernel
theorem dX3_copyFrom_56 : decode cX3_copyFrom 56 = .ok (.aload_n 0, 1) := by decide +kernel
theorem dX3_copyFrom_57 : decode cX3_copyFrom 57 = .ok (.aload_n 1, 1) := by decide +kernel
theorem dX3_copyFrom_58 : decode cX3_copyFrom 58 = .ok (.getfield 33, 3) := by decide +kernel
theorem dX3_copyFrom_61 : decode cX3_copyFrom 61 = .ok (.putfield 33, 3) := by decide +kernel
theorem dX3_copyFrom_64 : decode cX3_copyFrom 64 = .ok (.aload_n 0, 1) := by decide +kernel
theorem dX3_copyFrom_65 : decode cX3_copyFrom 65 = .ok (.aload_n 1, 1) := by decide +kernel
theorem dX3_copyFrom_66 : decode cX3_copyFrom 66 = .ok (.getfield 37, 3) := by decide +kernel
theorem dX3_copyFrom_69 : decode cX3_copyFrom 69 = .ok (.putfield 37, 3) := by decide +kernel
theorem dX3_copyFrom_72 : decode cX3_copyFrom 72 = .ok (.return_, 1) := by decide +kernel
theorem dX3_number_0 : decode cX3_number 0 = .ok (.iload_n 1, 1) := by decide +kernel
theorem dX3_number_1 : decode cX3_number 1 = .ok (.tableswitch 78 0 6 #[43, 48, 53, 58, 63, 68, 73], 43) := by decide +kernel
theorem dX3_number_44 : decode cX3_number 44 = .ok (.aload_n 0, 1) := by decide +kernel
theorem dX3_number_45 : decode cX3_number 45 = .ok (.getfield 9, 3) := by decide +kernel
theorem dX3_number_48 : decode cX3_number 48 = .ok (.ireturn, 1) := by decide +kernel
theorem dX3_number_49 : decode cX3_number 49 = .ok (.aload_n 0, 1) := by decide +kernel
theorem dX3_number_50 : decode cX3_number 50 = .ok (.getfield 15, 3) := by decide +kernel
theorem dX3_number_53 : decode cX3_number 53 = .ok (.ireturn, 1) := by decide +kernel
theorem dX3_number_54 : decode cX3_number 54 = .ok (.aload_n 0, 1) := by decide +kernel
theorem dX3_number_55 : decode cX3_number 55 = .ok (.getfield 18, 3) := by decide +kernel
theorem dX3_number_58 : decode cX3_number 58 = .ok (.ireturn, 1) := by decide +kernel
theorem dX3_number_59 : decode cX3_number 59 = .ok (.aload_n 0, 1) := by decide +kernel
theorem dX3_number_60 : decode cX3_number 60 = .ok (.getfield 21, 3) := by decide +kernel
theorem dX3_number_63 : decode cX3_number 63 = .ok (.ireturn, 1) := by decide +kernel
theorem dX3_number_64 : decode cX3_number 64 = .ok (.aload_n 0, 1) := by decide +kernel
theorem dX3_number_65 : decode cX3_number 65 = .ok (.getfield 24, 3) := by decide +kernel
theorem dX3_number_68 : decode cX3_number 68 = .ok (.ireturn, 1) := by decide +kernel
theorem dX3_number_69 : decode cX3_number 69 = .ok (.aload_n 0, 1) := by decide +kernel
theorem dX3_number_70 : decode cX3_number 70 = .ok (.getfield 27, 3) := by decide +kernel
theorem dX3_number_73 : decode cX3_number 73 = .ok (.ireturn, 1) := by decide +kernel
theorem dX3_number_74 : decode cX3_number 74 = .ok (.aload_n 0, 1) := by decide +kernel
theorem dX3_number_75 : decode cX3_number 75 = .ok (.invokevirtual 40, 3) := by decide +kernel
theorem dX3_number_78 : decode cX3_number 78 = .ok (.ireturn, 1) := by decide +kernel
theorem dX3_number_79 : decode cX3_number 79 = .ok (.aload_n 0, 1) := by decide +kernel
theorem dX3_number_80 : decode cX3_number 80 = .ok (.getfield 37, 3) := by decide +kernel
theorem dX3_number_83 : decode cX3_number 83 = .ok (.ireturn, 1) := by decide +kernel
theorem dX3_dogStillLets_0 : decode cX3_dogStillLets 0 = .ok (.aload_n 0, 1) := by decide +kernel
theorem dX3_dogStillLets_1 : decode cX3_dogStillLets 1 = .ok (.getfield 15, 3) := by decide +kernel
theorem dX3_dogStillLets_4 : decode cX3_dogStillLets 4 = .ok (.ifCond .eq 10, 3) := by decide +kernel
theorem dX3_dogStillLets_7 : decode cX3_dogStillLets 7 = .ok (.aload_n 0, 1) := by decide +kernel
theorem dX3_dogStillLets_8 : decode cX3_dogStillLets 8 = .ok (.getfield 33, 3) := by decide +kernel
theorem dX3_dogStillLets_11 : decode cX3_dogStillLets 11 = .ok (.ifCond .eq 6, 3) := by decide +kernel
theorem dX3_dogStillLets_14 : decode cX3_dogStillLets 14 = .ok (.bipush 99, 2) := by decide +kernel
theorem dX3_dogStillLets_16 : decode cX3_dogStillLets 16 = .ok (.ireturn, 1) := by decide +kernel
theorem dX3_dogStillLets_17 : decode cX3_dogStillLets 17 = .ok (.aload_n 0, 1) := by decide +kernel
theorem dX3_dogStillLets_18 : decode cX3_dogStillLets 18 = .ok (.getfield 15, 3) := by decide +kernel
theorem dX3_dogStillLets_21 : decode cX3_dogStillLets 21 = .ok (.iconst 2, 1) := by decide +kernel
theorem dX3_dogStillLets_22 : decode cX3_dogStillLets 22 = .ok (.if_icmp .ne 7, 3) := by decide +kernel
theorem dX3_dogStillLets_25 : decode cX3_dogStillLets 25 = .ok (.iconst 0, 1) := by decide +kernel
theorem dX3_dogStillLets_26 : decode cX3_dogStillLets 26 = .ok (.goto 13, 3) := by decide +kernel
theorem dX3_dogStillLets_29 : decode cX3_dogStillLets 29 = .ok (.iconst 0, 1) := by decide +kernel
theorem dX3_dogStillLets_30 : decode cX3_dogStillLets 30 = .ok (.iconst 2, 1) := by decide +kernel
theorem dX3_dogStillLets_31 : decode cX3_dogStillLets 31 = .ok (.aload_n 0, 1) := by decide +kernel
theorem dX3_dogStillLets_32 : decode cX3_dogStillLets 32 = .ok (.getfield 30, 3) := by decide +kernel
theorem dX3_dogStillLets_35 : decode cX3_dogStillLets 35 = .ok (.isub, 1) := by decide +kernel
theorem dX3_dogStillLets_36 : decode cX3_dogStillLets 36 = .ok (.invokestatic 44, 3) := by decide +kernel
theorem dX3_dogStillLets_39 : decode cX3_dogStillLets 39 = .ok (.ireturn, 1) := by decide +kernel
theorem dX3_takeSack_0 : decode cX3_takeSack 0 = .ok (.aload_n 0, 1) := by decide +kernel
theorem dX3_takeSack_1 : decode cX3_takeSack 1 = .ok (.dup, 1) := by decide +kernel
theorem dX3_takeSack_2 : decode cX3_takeSack 2 = .ok (.getfield 21, 3) := by decide +kernel
theorem dX3_takeSack_5 : decode cX3_takeSack 5 = .ok (.iconst 1, 1) := by decide +kernel
theorem dX3_takeSack_6 : decode cX3_takeSack 6 = .ok (.isub, 1) := by decide +kernel
theorem dX3_takeSack_7 : decode cX3_takeSack 7 = .ok (.putfield 21, 3) := by decide +kernel
theorem dX3_takeSack_10 : decode cX3_takeSack 10 = .ok (.aload_n 0, 1) := by decide +kernel
theorem dX3_takeSack_11 : decode cX3_takeSack 11 = .ok (.dup, 1) := by decide +kernel
theorem dX3_takeSack_12 : decode cX3_takeSack 12 = .ok (.getfield 24, 3) := by decide +kernel
theorem dX3_takeSack_15 : decode cX3_takeSack 15 = .ok (.iconst 3, 1) := by decide +kernel
theorem dX3_takeSack_16 : decode cX3_takeSack 16 = .ok (.iadd, 1) := by decide +kernel
theorem dX3_takeSack_17 : decode cX3_takeSack 17 = .ok (.putfield 24, 3) := by decide +kernel
theorem dX3_takeSack_20 : decode cX3_takeSack 20 = .ok (.aload_n 0, 1) := by decide +kernel
theorem dX3_takeSack_21 : decode cX3_takeSack 21 = .ok (.dup, 1) := by decide +kernel
theorem dX3_takeSack_22 : decode cX3_takeSack 22 = .ok (.getfield 27, 3) := by decide +kernel
theorem dX3_takeSack_25 : decode cX3_takeSack 25 = .ok (.iload_n 1, 1) := by decide +kernel
theorem dX3_takeSack_26 : decode cX3_takeSack 26 = .ok (.iconst 3, 1) := by decide +kernel
theorem dX3_takeSack_27 : decode cX3_takeSack 27 = .ok (.idiv, 1) := by decide +kernel
theorem dX3_takeSack_28 : decode cX3_takeSack 28 = .ok (.iadd, 1) := by decide +kernel
theorem dX3_takeSack_29 : decode cX3_takeSack 29 = .ok (.putfield 27, 3) := by decide +kernel
theorem dX3_takeSack_32 : decode cX3_takeSack 32 = .ok (.aload_n 0, 1) := by decide +kernel
theorem dX3_takeSack_33 : decode cX3_takeSack 33 = .ok (.dup, 1) := by decide +kernel
theorem dX3_takeSack_34 : decode cX3_takeSack 34 = .ok (.getfield 30, 3) := by decide +kernel
theorem dX3_takeSack_37 : decode cX3_takeSack 37 = .ok (.iconst 1, 1) := by decide +kernel
theorem dX3_takeSack_38 : decode cX3_takeSack 38 = .ok (.iadd, 1) := by decide +kernel
theorem dX3_takeSack_39 : decode cX3_takeSack 39 = .ok (.putfield 30, 3) := by decide +kernel
theorem dX3_takeSack_42 : decode cX3_takeSack 42 = .ok (.aload_n 0, 1) := by decide +kernel
theorem dX3_takeSack_43 : decode cX3_takeSack 43 = .ok (.dup, 1) := by decide +kernel
theorem dX3_takeSack_44 : decode cX3_takeSack 44 = .ok (.getfield 37, 3) := by decide +kernel
theorem dX3_takeSack_47 : decode cX3_takeSack 47 = .ok (.iconst 1, 1) := by decide +kernel
theorem dX3_takeSack_48 : decode cX3_takeSack 48 = .ok (.iadd, 1) := by decide +kernel
theorem dX3_takeSack_49 : decode cX3_takeSack 49 = .ok (.putfield 37, 3) := by decide +kernel
theorem dX3_takeSack_52 : decode cX3_takeSack 52 = .ok (.return_, 1) := by decide +kernel
theorem dX3_beginDay_0 : decode cX3_beginDay 0 = .ok (.aload_n 0, 1) := by decide +kernel
theorem dX3_beginDay_1 : decode cX3_beginDay 1 = .ok (.iconst 0, 1) := by decide +kernel
theorem dX3_beginDay_2 : decode cX3_beginDay 2 = .ok (.putfield 30, 3) := by decide +kernel
theorem dX3_beginDay_5 : decode cX3_beginDay 5 = .ok (.aload_n 0, 1) := by decide +kernel
theorem dX3_beginDay_6 : decode cX3_beginDay 6 = .ok (.iconst 0, 1) := by decide +kernel
theorem dX3_beginDay_7 : decode cX3_beginDay 7 = .ok (.putfield 33, 3) := by decide +kernel
theorem dX3_beginDay_10 : decode cX3_beginDay 10 = .ok (.return_, 1) := by decide +kernel
theorem dX3_beginWeek_0 : decode cX3_beginWeek 0 = .ok (.aload_n 0, 1) := by decide +kernel
theorem dX3_beginWeek_1 : decode cX3_beginWeek 1 = .ok (.bipush 20, 2) := by decide +kernel
theorem dX3_beginWeek_3 : decode cX3_beginWeek 3 = .ok (.aload_n 0, 1) := by decide +kernel
theorem dX3_beginWeek_4 : decode cX3_beginWeek 4 = .ok (.getfield 21, 3) := by decide +kernel
theorem dX3_beginWeek_7 : decode cX3_beginWeek 7 = .ok (.aload_n 0, 1) := by decide +kernel
theorem dX3_beginWeek_8 : decode cX3_beginWeek 8 = .ok (.getfield 18, 3) := by decide +kernel
theorem dX3_beginWeek_11 : decode cX3_beginWeek 11 = .ok (.iadd, 1) := by decide +kernel
theorem dX3_beginWeek_12 : decode cX3_beginWeek 12 = .ok (.invokestatic 50, 3) := by decide +kernel
theorem dX3_beginWeek_15 : decode cX3_beginWeek 15 = .ok (.putfield 21, 3) := by decide +kernel
theorem dX3_beginWeek_18 : decode cX3_beginWeek 18 = .ok (.return_, 1) := by decide +kernel
theorem dX4_init_0 : decode cX4_init 0 = .ok (.aload_n 0, 1) := by decide +kernel
theorem dX4_init_1 : decode cX4_init 1 = .ok (.invokespecial 3, 3) := by decide +kernel
theorem dX4_init_4 : decode cX4_init 4 = .ok (.return_, 1) := by decide +kernel
theorem dX4_refuse_0 : decode cX4_refuse 0 = .ok (.aload_n 0, 1) := by decide +kernel
theorem dX4_refuse_1 : decode cX4_refuse 1 = .ok (.iload_n 1, 1) := by decide +kernel
theorem dX4_refuse_2 : decode cX4_refuse 2 = .ok (.putfield 9, 3) := by decide +kernel
theorem dX4_refuse_5 : decode cX4_refuse 5 = .ok (.aload_n 0, 1) := by decide +kernel
theorem dX4_refuse_6 : decode cX4_refuse 6 = .ok (.iload_n 2, 1) := by decide +kernel
theorem dX4_refuse_7 : decode cX4_refuse 7 = .ok (.putfield 15, 3) := by decide +kernel
theorem dX4_refuse_10 : decode cX4_refuse 10 = .ok (.aload_n 0, 1) := by decide +kernel
theorem dX4_refuse_11 : decode cX4_refuse 11 = .ok (.iconst 0, 1) := by decide +kernel
theorem dX4_refuse_12 : decode cX4_refuse 12 = .ok (.putfield 18, 3) := by decide +kernel
theorem dX4_refuse_15 : decode cX4_refuse 15 = .ok (.iconst (-1), 1) := by decide +kernel
theorem dX4_refuse_16 : decode cX4_refuse 16 = .ok (.ireturn, 1) := by decide +kernel
theorem dX5_init_0 : decode cX5_init 0 = .ok (.aload_n 0, 1) := by decide +kernel
theorem dX5_init_1 : decode cX5_init 1 = .ok (.invokespecial 3, 3) := by decide +kernel
theorem dX5_init_4 : decode cX5_init 4 = .ok (.aload_n 0, 1) := by decide +kernel
theorem dX5_init_5 : decode cX5_init 5 = .ok (.bipush 8, 2) := by decide +kernel
theorem dX5_init_7 : decode cX5_init 7 = .ok (.anewarray 9, 3) := by decide +kernel
theorem dX5_init_10 : decode cX5_init 10 = .ok (.putfield 11, 3) := by decide +kernel
theorem dX5_init_13 : decode cX5_init 13 = .ok (.aload_n 0, 1) := by decide +kernel
theorem dX5_init_14 : decode cX5_init 14 = .ok (.iconst 4, 1) := by decide +kernel
theorem dX5_init_15 : decode cX5_init 15 = .ok (.anewarray 17, 3) := by decide +kernel
theorem dX5_init_18 : decode cX5_init 18 = .ok (.putfield 19, 3) := by decide +kernel
theorem dX5_init_21 : decode cX5_init 21 = .ok (.aload_n 0, 1) := by decide +kernel
theorem dX5_init_22 : decode cX5_init 22 = .ok (.iconst 4, 1) := by decide +kernel
theorem dX5_init_23 : decode cX5_init 23 = .ok (.newarray .int, 2) := by decide +kernel
theorem dX5_init_25 : decode cX5_init 25 = .ok (.putfield 23, 3) := by decide +kernel
theorem dX5_init_28 : decode cX5_init 28 = .ok (.aload_n 0, 1) := by decide +kernel
theorem dX5_init_29 : decode cX5_init 29 = .ok (.bipush 100, 2) := by decide +kernel
theorem dX5_init_31 : decode cX5_init 31 = .ok (.putfield 27, 3) := by decide +kernel
theorem dX5_init_34 : decode cX5_init 34 = .ok (.aload_n 0, 1) := by decide +kernel
theorem dX5_init_35 : decode cX5_init 35 = .ok (.bipush 20, 2) := by decide +kernel
theorem dX5_init_37 : decode cX5_init 37 = .ok (.putfield 31, 3) := by decide +kernel
theorem dX5_init_40 : decode cX5_init 40 = .ok (.aload_n 0, 1) := by decide +kernel
theorem dX5_init_41 : decode cX5_init 41 = .ok (.iconst 3, 1) := by decide +kernel
theorem dX5_init_42 : decode cX5_init 42 = .ok (.putfield 34, 3) := by decide +kernel
theorem dX5_init_45 : decode cX5_init 45 = .ok (.iconst 0, 1) := by decide +kernel
theorem dX5_init_46 : decode cX5_init 46 = .ok (.istore_n 1, 1) := by decide +kernel
theorem dX5_init_47 : decode cX5_init 47 = .ok (.iload_n 1, 1) := by decide +kernel
theorem dX5_init_48 : decode cX5_init 48 = .ok (.bipush 8, 2) := by decide +kernel
theorem dX5_init_50 : decode cX5_init 50 = .ok (.if_icmp .ge 22, 3) := by decide +kernel
theorem dX5_init_53 : decode cX5_init 53 = .ok (.aload_n 0, 1) := by decide +kernel
theorem dX5_init_54 : decode cX5_init 54 = .ok (.getfield 11, 3) := by decide +kernel
theorem dX5_init_57 : decode cX5_init 57 = .ok (.iload_n 1, 1) := by decide +kernel
theorem dX5_init_58 : decode cX5_init 58 = .ok (.new 9, 3) := by decide +kernel
theorem dX5_init_61 : decode cX5_init 61 = .ok (.dup, 1) := by decide +kernel
theorem dX5_init_62 : decode cX5_init 62 = .ok (.invokespecial 37, 3) := by decide +kernel
theorem dX5_init_65 : decode cX5_init 65 = .ok (.aastore, 1) := by decide +kernel
theorem dX5_init_66 : decode cX5_init 66 = .ok (.iinc 1 1, 3) := by decide +kernel
theorem dX5_init_69 : decode cX5_init 69 = .ok (.goto (-22), 3) := by decide +kernel
theorem dX5_init_72 : decode cX5_init 72 = .ok (.iconst 0, 1) := by decide +kernel
theorem dX5_init_73 : decode cX5_init 73 = .ok (.istore_n 1, 1) := by decide +kernel
theorem dX5_init_74 : decode cX5_init 74 = .ok (.iload_n 1, 1) := by decide +kernel
theorem dX5_init_75 : decode cX5_init 75 = .ok (.iconst 4, 1) := by decide +kernel
theorem dX5_init_76 : decode cX5_init 76 = .ok (.if_icmp .ge 22, 3) := by decide +kernel
theorem dX5_init_79 : decode cX5_init 79 = .ok (.aload_n 0, 1) := by decide +kernel
theorem dX5_init_80 : decode cX5_init 80 = .ok (.getfield 19, 3) := by decide +kernel
theorem dX5_init_83 : decode cX5_init 83 = .ok (.iload_n 1, 1) := by decide +kernel
theorem dX5_init_84 : decode cX5_init 84 = .ok (.new 17, 3) := by decide +kernel
theorem dX5_init_87 : decode cX5_init 87 = .ok (.dup, 1) := by decide +kernel
theorem dX5_init_88 : decode cX5_init 88 = .ok (.invokespecial 38, 3) := by decide +kernel
theorem dX5_init_91 : decode cX5_init 91 = .ok (.aastore, 1) := by decide +kernel
theorem dX5_init_92 : decode cX5_init 92 = .ok (.iinc 1 1, 3) := by decide +kernel
theorem dX5_init_95 : decode cX5_init 95 = .ok (.goto (-21), 3) := by decide +kernel
theorem dX5_init_98 : decode cX5_init 98 = .ok (.return_, 1) := by decide +kernel
theorem dX5_copyFrom_0 : decode cX5_copyFrom 0 = .ok (.iconst 0, 1) := by decide +kernel
theorem dX5_copyFrom_1 : decode cX5_copyFrom 1 = .ok (.istore_n 2, 1) := by decide +kernel
theorem dX5_copyFrom_2 : decode cX5_copyFrom 2 = .ok (.iload_n 2, 1) := by decide +kernel
theorem dX5_copyFrom_3 : decode cX5_copyFrom 3 = .ok (.bipush 8, 2) := by decide +kernel
theorem dX5_copyFrom_5 : decode cX5_copyFrom 5 = .ok (.if_icmp .ge 24, 3) := by decide +kernel
theorem dX5_copyFrom_8 : decode cX5_copyFrom 8 = .ok (.aload_n 0, 1) := by decide +kernel
theorem dX5_copyFrom_9 : decode cX5_copyFrom 9 = .ok (.getfield 11, 3) := by decide +kernel
theorem dX5_copyFrom_12 : decode cX5_copyFrom 12 = .ok (.iload_n 2, 1) := by decide +kernel
theorem dX5_copyFrom_13 : decode cX5_copyFrom 13 = .ok (.aaload, 1) := by decide +kernel
theorem dX5_copyFrom_14 : decode cX5_copyFrom 14 = .ok (.aload_n 1, 1) := by decide +kernel
theorem dX5_copyFrom_15 : decode cX5_copyFrom 15 = .ok (.getfield 11, 3) := by decide +kernel
theorem dX5_copyFrom_18 : decode cX5_copyFrom 18 = .ok (.iload_n 2, 1) := by decide +kernel
theorem dX5_copyFrom_19 : decode cX5_copyFrom 19 = .ok (.aaload, 1) := by decide +kernel
theorem dX5_copyFrom_20 : decode cX5_copyFrom 20 = .ok (.invokevirtual 39, 3) := by decide +kernel
theorem dX5_copyFrom_23 : decode cX5_copyFrom 23 = .ok (.iinc 2 1, 3) := by decide +kernel
theorem dX5_copyFrom_26 : decode cX5_copyFrom 26 = .ok (.goto (-24), 3) := by decide +kernel
theorem dX5_copyFrom_29 : decode cX5_copyFrom 29 = .ok (.iconst 0, 1) := by decide +kernel
theorem dX5_copyFrom_30 : decode cX5_copyFrom 30 = .ok (.istore_n 2, 1) := by decide +kernel
theorem dX5_copyFrom_31 : decode cX5_copyFrom 31 = .ok (.iload_n 2, 1) := by decide +kernel
theorem dX5_copyFrom_32 : decode cX5_copyFrom 32 = .ok (.iconst 4, 1) := by decide +kernel
theorem dX5_copyFrom_33 : decode cX5_copyFrom 33 = .ok (.if_icmp .ge 24, 3) := by decide +kernel
theorem dX5_copyFrom_36 : decode cX5_copyFrom 36 = .ok (.aload_n 0, 1) := by decide +kernel
theorem dX5_copyFrom_37 : decode cX5_copyFrom 37 = .ok (.getfield 19, 3) := by decide +kernel
theorem dX5_copyFrom_40 : decode cX5_copyFrom 40 = .ok (.iload_n 2, 1) := by decide +kernel
theorem dX5_copyFrom_41 : decode cX5_copyFrom 41 = .ok (.aaload, 1) := by decide +kernel
theorem dX5_copyFrom_42 : decode cX5_copyFrom 42 = .ok (.aload_n 1, 1) := by decide +kernel
theorem dX5_copyFrom_43 : decode cX5_copyFrom 43 = .ok (.getfield 19, 3) := by decide +kernel
theorem dX5_copyFrom_46 : decode cX5_copyFrom 46 = .ok (.iload_n 2, 1) := by decide +kernel
theorem dX5_copyFrom_47 : decode cX5_copyFrom 47 = .ok (.aaload, 1) := by decide +kernel
theorem dX5_copyFrom_48 : decode cX5_copyFrom 48 = .ok (.invokevirtual 43, 3) := by decide +kernel
theorem dX5_copyFrom_51 : decode cX5_copyFrom 51 = .ok (.iinc 2 1, 3) := by decide +kernel
theorem dX5_copyFrom_54 : decode cX5_copyFrom 54 = .ok (.goto (-23), 3) := by decide +kernel
theorem dX5_copyFrom_57 : decode cX5_copyFrom 57 = .ok (.iconst 0, 1) := by decide +kernel
theorem dX5_copyFrom_58 : decode cX5_copyFrom 58 = .ok (.istore_n 2, 1) := by decide +kernel
theorem dX5_copyFrom_59 : decode cX5_copyFrom 59 = .ok (.iload_n 2, 1) := by decide +kernel
theorem dX5_copyFrom_60 : decode cX5_copyFrom 60 = .ok (.iconst 4, 1) := by decide +kernel
theorem dX5_copyFrom_61 : decode cX5_copyFrom 61 = .ok (.if_icmp .ge 21, 3) := by decide +kernel
theorem dX5_copyFrom_64 : decode cX5_copyFrom 64 = .ok (.aload_n 0, 1) := by decide +kernel
theorem dX5_copyFrom_65 : decode cX5_copyFrom 65 = .ok (.getfield 23, 3) := by decide +kernel
theorem dX5_copyFrom_68 : decode cX5_copyFrom 68 = .ok (.iload_n 2, 1) := by decide +kernel
theorem dX5_copyFrom_69 : decode cX5_copyFrom 69 = .ok (.aload_n 1, 1) := by decide +kernel
theorem dX5_copyFrom_70 : decode cX5_copyFrom 70 = .ok (.getfield 23, 3) := by decide +kernel
theorem dX5_copyFrom_73 : decode cX5_copyFrom 73 = .ok (.iload_n 2, 1) := by decide +kernel
theorem dX5_copyFrom_74 : decode cX5_copyFrom 74 = .ok (.iaload, 1) := by decide +kernel
theorem dX5_copyFrom_75 : decode cX5_copyFrom 75 = .ok (.iastore, 1) := by decide +kernel
theorem dX5_copyFrom_76 : decode cX5_copyFrom 76 = .ok (.iinc 2 1, 3) := by decide +kernel
theorem dX5_copyFrom_79 : decode cX5_copyFrom 79 = .ok (.goto (-20), 3) := by decide +kernel
theorem dX5_copyFrom_82 : decode cX5_copyFrom 82 = .ok (.aload_n 0, 1) := by decide +kernel
theorem dX5_copyFrom_83 : decode cX5_copyFrom 83 = .ok (.aload_n 1, 1) := by decide +kernel
theorem dX5_copyFrom_84 : decode cX5_copyFrom 84 = .ok (.getfield 46, 3) := by decide +kernel
theorem dX5_copyFrom_87 : decode cX5_copyFrom 87 = .ok (.putfield 46, 3) := by decide +kernel
theorem dX5_copyFrom_90 : decode cX5_copyFrom 90 = .ok (.aload_n 0, 1) := by decide +kernel
theorem dX5_copyFrom_91 : decode cX5_copyFrom 91 = .ok (.aload_n 1, 1) := by decide +kernel
theorem dX5_copyFrom_92 : decode cX5_copyFrom 92 = .ok (.getfield 49, 3) := by decide +kernel
theorem dX5_copyFrom_95 : decode cX5_copyFrom 95 = .ok (.putfield 49, 3) := by decide +kernel
theorem dX5_copyFrom_98 : decode cX5_copyFrom 98 = .ok (.aload_n 0, 1) := by decide +kernel
theorem dX5_copyFrom_99 : decode cX5_copyFrom 99 = .ok (.aload_n 1, 1) := by decide +kernel
theorem dX5_copyFrom_100 : decode cX5_copyFrom 100 = .ok (.getfield 52, 3) := by decide +kernel
theorem dX5_copyFrom_103 : decode cX5_copyFrom 103 = .ok (.putfield 52, 3) := by decide +kernel
theorem dX5_copyFrom_106 : decode cX5_copyFrom 106 = .ok (.aload_n 0, 1) := by decide +kernel
theorem dX5_copyFrom_107 : decode cX5_copyFrom 107 = .ok (.aload_n 1, 1) := by decide +kernel
theorem dX5_copyFrom_108 : decode cX5_copyFrom 108 = .ok (.getfield 55, 3) := by decide +kernel
theorem dX5_copyFrom_111 : decode cX5_copyFrom 111 = .ok (.putfield 55, 3) := by decide +kernel
theorem dX5_copyFrom_114 : decode cX5_copyFrom 114 = .ok (.aload_n 0, 1) := by decide +kernel
theorem dX5_copyFrom_115 : decode cX5_copyFrom 115 = .ok (.aload_n 1, 1) := by decide +kernel
theorem dX5_copyFrom_116 : decode cX5_copyFrom 116 = .ok (.getfield 58, 3) := by decide +kernel
theorem dX5_copyFrom_119 : decode cX5_copyFrom 119 = .ok (.putfield 58, 3) := by decide +kernel
theorem dX5_copyFrom_122 : decode cX5_copyFrom 122 = .ok (.aload_n 0, 1) := by decide +kernel
theorem dX5_copyFrom_123 : decode cX5_copyFrom 123 = .ok (.aload_n 1, 1) := by decide +kernel
theorem dX5_copyFrom_124 : decode cX5_copyFrom 124 = .ok (.getfield 27, 3) := by decide +kernel
theorem dX5_copyFrom_127 : decode cX5_copyFrom 127 = .ok (.putfield 27, 3) := by decide +kernel
theorem dX5_copyFrom_130 : decode cX5_copyFrom 130 = .ok (.aload_n 0, 1) := by decide +kernel
theorem dX5_copyFrom_131 : decode cX5_copyFrom 131 = .ok (.aload_n 1, 1) := by decide +kernel
theorem dX5_copyFrom_132 : decode cX5_copyFrom 132 = .ok (.getfield 31, 3) := by decide +kernel
theorem dX5_copyFrom_135 : decode cX5_copyFrom 135 = .ok (.putfield 31, 3) := by decide +kernel
theorem dX5_copyFrom_138 : decode cX5_copyFrom 138 = .ok (.aload_n 0, 1) := by decide +kernel
theorem dX5_copyFrom_139 : decode cX5_copyFrom 139 = .ok (.aload_n 1, 1) := by decide +kernel
theorem dX5_copyFrom_140 : decode cX5_copyFrom 140 = .ok (.getfield 34, 3) := by decide +kernel
theorem dX5_copyFrom_143 : decode cX5_copyFrom 143 = .ok (.putfield 34, 3) := by decide +kernel
theorem dX5_copyFrom_146 : decode cX5_copyFrom 146 = .ok (.aload_n 0, 1) := by decide +kernel
theorem dX5_copyFrom_147 : decode cX5_copyFrom 147 = .ok (.aload_n 1, 1) := by decide +kernel
theorem dX5_copyFrom_148 : decode cX5_copyFrom 148 = .ok (.getfield 61, 3) := by decide +kernel
theorem dX5_copyFrom_151 : decode cX5_copyFrom 151 = .ok (.putfield 61, 3) := by decide +kernel
theorem dX5_copyFrom_154 : decode cX5_copyFrom 154 = .ok (.aload_n 0, 1) := by decide +kernel
theorem dX5_copyFrom_155 : decode cX5_copyFrom 155 = .ok (.aload_n 1, 1) := by decide +kernel
theorem dX5_copyFrom_156 : decode cX5_copyFrom 156 = .ok (.getfield 64, 3) := by decide +kernel
theorem dX5_copyFrom_159 : decode cX5_copyFrom 159 = .ok (.putfield 64, 3) := by decide +kernel
theorem dX5_copyFrom_162 : decode cX5_copyFrom 162 = .ok (.return_, 1) := by decide +kernel
theorem dX5_houseAt_0 : decode cX5_houseAt 0 = .ok (.iload_n 1, 1) := by decide +kernel
theorem dX5_houseAt_1 : decode cX5_houseAt 1 = .ok (.iconst 0, 1) := by decide +kernel
theorem dX5_houseAt_2 : decode cX5_houseAt 2 = .ok (.aload_n 0, 1) := by decide +kernel
theorem dX5_houseAt_3 : decode cX5_houseAt 3 = .ok (.getfield 46, 3) := by decide +kernel
theorem dX5_houseAt_6 : decode cX5_houseAt 6 = .ok (.iconst 1, 1) := by decide +kernel
theorem dX5_houseAt_7 : decode cX5_houseAt 7 = .ok (.isub, 1) := by decide +kernel
theorem dX5_houseAt_8 : decode cX5_houseAt 8 = .ok (.invokestatic 67, 3) := by decide +kernel
theorem dX5_houseAt_11 : decode cX5_houseAt 11 = .ok (.ifCond .eq 7, 3) := by decide +kernel
theorem dX5_houseAt_14 : decode cX5_houseAt 14 = .ok (.aconst_null, 1) := by decide +kernel
theorem dX5_houseAt_15 : decode cX5_houseAt 15 = .ok (.goto 9, 3) := by decide +kernel
theorem dX5_houseAt_18 : decode cX5_houseAt 18 = .ok (.aload_n 0, 1) := by decide +kernel
theorem dX5_houseAt_19 : decode cX5_houseAt 19 = .ok (.getfield 11, 3) := by decide +kernel
theorem dX5_houseAt_22 : decode cX5_houseAt 22 = .ok (.iload_n 1, 1) := by decide +kernel
theorem dX5_houseAt_23 : decode cX5_houseAt 23 = .ok (.aaload, 1) := by decide +kernel
theorem dX5_houseAt_24 : decode cX5_houseAt 24 = .ok (.areturn, 1) := by decide +kernel
theorem dX5_houseHere_0 : decode cX5_houseHere 0 = .ok (.aload_n 0, 1) := by decide +kernel
theorem dX5_houseHere_1 : decode cX5_houseHere 1 = .ok (.aload_n 0, 1) := by decide +kernel
theorem dX5_houseHere_2 : decode cX5_houseHere 2 = .ok (.getfield 55, 3) := by decide +kernel
theorem dX5_houseHere_5 : decode cX5_houseHere 5 = .ok (.iconst 1, 1) := by decide +kernel
theorem dX5_houseHere_6 : decode cX5_houseHere 6 = .ok (.isub, 1) := by decide +kernel
theorem dX5_houseHere_7 : decode cX5_houseHere 7 = .ok (.invokevirtual 71, 3) := by decide +kernel
theorem dX5_houseHere_10 : decode cX5_houseHere 10 = .ok (.areturn, 1) := by decide +kernel
theorem dX5_carrierAt_0 : decode cX5_carrierAt 0 = .ok (.iload_n 1, 1) := by decide +kernel
theorem dX5_carrierAt_1 : decode cX5_carrierAt 1 = .ok (.iconst 0, 1) := by decide +kernel
theorem dX5_carrierAt_2 : decode cX5_carrierAt 2 = .ok (.aload_n 0, 1) := by decide +kernel
theorem dX5_carrierAt_3 : decode cX5_carrierAt 3 = .ok (.getfield 49, 3) := by decide +kernel
theorem dX5_carrierAt_6 : decode cX5_carrierAt 6 = .ok (.iconst 1, 1) := by decide +kernel
theorem dX5_carrierAt_7 : decode cX5_carrierAt 7 = .ok (.isub, 1) := by decide +kernel
theorem dX5_carrierAt_8 : decode cX5_carrierAt 8 = .ok (.invokestatic 67, 3) := by decide +kernel
theorem dX5_carrierAt_11 : decode cX5_carrierAt 11 = .ok (.ifCond .eq 7, 3) := by decide +kernel
theorem dX5_carrierAt_14 : decode cX5_carrierAt 14 = .ok (.aconst_null, 1) := by decide +kernel
theorem dX5_carrierAt_15 : decode cX5_carrierAt 15 = .ok (.goto 9, 3) := by decide +kernel
theorem dX5_carrierAt_18 : decode cX5_carrierAt 18 = .ok (.aload_n 0, 1) := by decide +kernel
theorem dX5_carrierAt_19 : decode cX5_carrierAt 19 = .ok (.getfield 19, 3) := by decide +kernel
theorem dX5_carrierAt_22 : decode cX5_carrierAt 22 = .ok (.iload_n 1, 1) := by decide +kernel
theorem dX5_carrierAt_23 : decode cX5_carrierAt 23 = .ok (.aaload, 1) := by decide +kernel
theorem dX5_carrierAt_24 : decode cX5_carrierAt 24 = .ok (.areturn, 1) := by decide +kernel
theorem dX5_shoesLeft_0 : decode cX5_shoesLeft 0 = .ok (.iconst 0, 1) := by decide +kernel
theorem dX5_shoesLeft_1 : decode cX5_shoesLeft 1 = .ok (.istore_n 1, 1) := by decide +kernel
theorem dX5_shoesLeft_2 : decode cX5_shoesLeft 2 = .ok (.iconst 0, 1) := by decide +kernel
theorem dX5_shoesLeft_3 : decode cX5_shoesLeft 3 = .ok (.istore_n 2, 1) := by decide +kernel
theorem dX5_shoesLeft_4 : decode cX5_shoesLeft 4 = .ok (.iload_n 2, 1) := by decide +kernel
theorem dX5_shoesLeft_5 : decode cX5_shoesLeft 5 = .ok (.iconst 4, 1) := by decide +kernel
theorem dX5_shoesLeft_6 : decode cX5_shoesLeft 6 = .ok (.if_icmp .ge 23, 3) := by decide +kernel
theorem dX5_shoesLeft_9 : decode cX5_shoesLeft 9 = .ok (.aload_n 0, 1) := by decide +kernel
theorem dX5_shoesLeft_10 : decode cX5_shoesLeft 10 = .ok (.getfield 23, 3) := by decide +kernel
theorem dX5_shoesLeft_13 : decode cX5_shoesLeft 13 = .ok (.iload_n 2, 1) := by decide +kernel
theorem dX5_shoesLeft_14 : decode cX5_shoesLeft 14 = .ok (.iaload, 1) := by decide +kernel
theorem dX5_shoesLeft_15 : decode cX5_shoesLeft 15 = .ok (.bipush 20, 2) := by decide +kernel
theorem dX5_shoesLeft_17 : decode cX5_shoesLeft 17 = .ok (.if_icmp .ge 6, 3) := by decide +kernel
theorem dX5_shoesLeft_20 : decode cX5_shoesLeft 20 = .ok (.iinc 1 1, 3) := by decide +kernel
theorem dX5_shoesLeft_23 : decode cX5_shoesLeft 23 = .ok (.iinc 2 1, 3) := by decide +kernel
theorem dX5_shoesLeft_26 : decode cX5_shoesLeft 26 = .ok (.goto (-22), 3) := by decide +kernel
theorem dX5_shoesLeft_29 : decode cX5_shoesLeft 29 = .ok (.iload_n 1, 1) := by decide +kernel
theorem dX5_shoesLeft_30 : decode cX5_shoesLeft 30 = .ok (.ireturn, 1) := by decide +kernel
theorem dX5_goUphill_0 : decode cX5_goUphill 0 = .ok (.iconst 0, 1) := by decide +kernel
theorem dX5_goUphill_1 : decode cX5_goUphill 1 = .ok (.istore_n 2, 1) := by decide +kernel
theorem dX5_goUphill_2 : decode cX5_goUphill 2 = .ok (.iload_n 2, 1) := by decide +kernel
theorem dX5_goUphill_3 : decode cX5_goUphill 3 = .ok (.iconst 4, 1) := by decide +kernel
theorem dX5_goUphill_4 : decode cX5_goUphill 4 = .ok (.if_icmp .ge 28, 3) := by decide +kernel
theorem dX5_goUphill_7 : decode cX5_goUphill 7 = .ok (.aload_n 0, 1) := by decide +kernel
theorem dX5_goUphill_8 : decode cX5_goUphill 8 = .ok (.getfield 23, 3) := by decide +kernel
theorem dX5_goUphill_11 : decode cX5_goUphill 11 = .ok (.iload_n 2, 1) := by decide +kernel
theorem dX5_goUphill_12 : decode cX5_goUphill 12 = .ok (.bipush 20, 2) := by decide +kernel
theorem dX5_goUphill_14 : decode cX5_goUphill 14 = .ok (.aload_n 0, 1) := by decide +kernel
theorem dX5_goUphill_15 : decode cX5_goUphill 15 = .ok (.getfield 23, 3) := by decide +kernel
theorem dX5_goUphill_18 : decode cX5_goUphill 18 = .ok (.iload_n 2, 1) := by decide +kernel
theorem dX5_goUphill_19 : decode cX5_goUphill 19 = .ok (.iaload, 1) := by decide +kernel
theorem dX5_goUphill_20 : decode cX5_goUphill 20 = .ok (.iload_n 1, 1) := by decide +kernel
theorem dX5_goUphill_21 : decode cX5_goUphill 21 = .ok (.iadd, 1) := by decide +kernel
theorem dX5_goUphill_22 : decode cX5_goUphill 22 = .ok (.invokestatic 75, 3) := by decide +kernel
theorem dX5_goUphill_25 : decode cX5_goUphill 25 = .ok (.iastore, 1) := by decide +kernel
theorem dX5_goUphill_26 : decode cX5_goUphill 26 = .ok (.iinc 2 1, 3) := by decide +kernel
theorem dX5_goUphill_29 : decode cX5_goUphill 29 = .ok (.goto (-27), 3) := by decide +kernel
theorem dX5_goUphill_32 : decode cX5_goUphill 32 = .ok (.aload_n 0, 1) := by decide +kernel
theorem dX5_goUphill_33 : decode cX5_goUphill 33 = .ok (.dup, 1) := by decide +kernel
theorem dX5_goUphill_34 : decode cX5_goUphill 34 = .ok (.getfield 64, 3) := by decide +kernel
theorem dX5_goUphill_37 : decode cX5_goUphill 37 = .ok (.iload_n 1, 1) := by decide +kernel
theorem dX5_goUphill_38 : decode cX5_goUphill 38 = .ok (.iadd, 1) := by decide +kernel
theorem dX5_goUphill_39 : decode cX5_goUphill 39 = .ok (.putfield 64, 3) := by decide +kernel
theorem dX5_goUphill_42 : decode cX5_goUphill 42 = .ok (.return_, 1) := by decide +kernel
theorem dX5_beginDay_0 : decode cX5_beginDay 0 = .ok (.aload_n 0, 1) := by decide +kernel
theorem dX5_beginDay_1 : decode cX5_beginDay 1 = .ok (.dup, 1) := by decide +kernel
theorem dX5_beginDay_2 : decode cX5_beginDay 2 = .ok (.getfield 52, 3) := by decide +kernel
theorem dX5_beginDay_5 : decode cX5_beginDay 5 = .ok (.iconst 1, 1) := by decide +kernel
theorem dX5_beginDay_6 : decode cX5_beginDay 6 = .ok (.iadd, 1) := by decide +kernel
theorem dX5_beginDay_7 : decode cX5_beginDay 7 = .ok (.putfield 52, 3) := by decide +kernel
theorem dX5_beginDay_10 : decode cX5_beginDay 10 = .ok (.aload_n 0, 1) := by decide +kernel
theorem dX5_beginDay_11 : decode cX5_beginDay 11 = .ok (.getfield 52, 3) := by decide +kernel
theorem dX5_beginDay_14 : decode cX5_beginDay 14 = .ok (.bipush 7, 2) := by decide +kernel
theorem dX5_beginDay_16 : decode cX5_beginDay 16 = .ok (.irem, 1) := by decide +kernel
theorem dX5_beginDay_17 : decode cX5_beginDay 17 = .ok (.ifCond .ne 7, 3) := by decide +kernel
theorem dX5_beginDay_20 : decode cX5_beginDay 20 = .ok (.iconst 1, 1) := by decide +kernel
theorem dX5_beginDay_21 : decode cX5_beginDay 21 = .ok (.goto 4, 3) := by decide +kernel
theorem dX5_beginDay_24 : decode cX5_beginDay 24 = .ok (.iconst 0, 1) := by decide +kernel
theorem dX5_beginDay_25 : decode cX5_beginDay 25 = .ok (.istore_n 1, 1) := by decide +kernel
theorem dX5_beginDay_26 : decode cX5_beginDay 26 = .ok (.iconst 0, 1) := by decide +kernel
theorem dX5_beginDay_27 : decode cX5_beginDay 27 = .ok (.istore_n 2, 1) := by decide +kernel
theorem dX5_beginDay_28 : decode cX5_beginDay 28 = .ok (.iload_n 2, 1) := by decide +kernel
theorem dX5_beginDay_29 : decode cX5_beginDay 29 = .ok (.aload_n 0, 1) := by decide +kernel
theorem dX5_beginDay_30 : decode cX5_beginDay 30 = .ok (.getfield 46, 3) := by decide +kernel
theorem dX5_beginDay_33 : decode cX5_beginDay 33 = .ok (.if_icmp .ge 31, 3) := by decide +kernel
theorem dX5_beginDay_36 : decode cX5_beginDay 36 = .ok (.aload_n 0, 1) := by decide +kernel
theorem dX5_beginDay_37 : decode cX5_beginDay 37 = .ok (.getfield 11, 3) := by decide +kernel
theorem dX5_beginDay_40 : decode cX5_beginDay 40 = .ok (.iload_n 2, 1) := by decide +kernel
theorem dX5_beginDay_41 : decode cX5_beginDay 41 = .ok (.aaload, 1) := by decide +kernel
theorem dX5_beginDay_42 : decode cX5_beginDay 42 = .ok (.invokevirtual 81, 3) := by decide +kernel
theorem dX5_beginDay_45 : decode cX5_beginDay 45 = .ok (.iload_n 1, 1) := by decide +kernel
theorem dX5_beginDay_46 : decode cX5_beginDay 46 = .ok (.ifCond .eq 12, 3) := by decide +kernel
theorem dX5_beginDay_49 : decode cX5_beginDay 49 = .ok (.aload_n 0, 1) := by decide +kernel
theorem dX5_beginDay_50 : decode cX5_beginDay 50 = .ok (.getfield 11, 3) := by decide +kernel
theorem dX5_beginDay_53 : decode cX5_beginDay 53 = .ok (.iload_n 2, 1) := by decide +kernel
theorem dX5_beginDay_54 : decode cX5_beginDay 54 = .ok (.aaload, 1) := by decide +kernel
theorem dX5_beginDay_55 : decode cX5_beginDay 55 = .ok (.invokevirtual 84, 3) := by decide +kernel
theorem dX5_beginDay_58 : decode cX5_beginDay 58 = .ok (.iinc 2 1, 3) := by decide +kernel
theorem dX5_beginDay_61 : decode cX5_beginDay 61 = .ok (.goto (-33), 3) := by decide +kernel
theorem dX5_beginDay_64 : decode cX5_beginDay 64 = .ok (.iconst 0, 1) := by decide +kernel
theorem dX5_beginDay_65 : decode cX5_beginDay 65 = .ok (.istore_n 2, 1) := by decide +kernel
theorem dX5_beginDay_66 : decode cX5_beginDay 66 = .ok (.iload_n 2, 1) := by decide +kernel
theorem dX5_beginDay_67 : decode cX5_beginDay 67 = .ok (.aload_n 0, 1) := by decide +kernel
theorem dX5_beginDay_68 : decode cX5_beginDay 68 = .ok (.getfield 49, 3) := by decide +kernel
theorem dX5_beginDay_71 : decode cX5_beginDay 71 = .ok (.if_icmp .ge 18, 3) := by decide +kernel
theorem dX5_beginDay_74 : decode cX5_beginDay 74 = .ok (.aload_n 0, 1) := by decide +kernel
theorem dX5_beginDay_75 : decode cX5_beginDay 75 = .ok (.getfield 19, 3) := by decide +kernel
theorem dX5_beginDay_78 : decode cX5_beginDay 78 = .ok (.iload_n 2, 1) := by decide +kernel
theorem dX5_beginDay_79 : decode cX5_beginDay 79 = .ok (.aaload, 1) := by decide +kernel
theorem dX5_beginDay_80 : decode cX5_beginDay 80 = .ok (.invokevirtual 87, 3) := by decide +kernel
theorem dX5_beginDay_83 : decode cX5_beginDay 83 = .ok (.iinc 2 1, 3) := by decide +kernel
theorem dX5_beginDay_86 : decode cX5_beginDay 86 = .ok (.goto (-20), 3) := by decide +kernel
theorem dX5_beginDay_89 : decode cX5_beginDay 89 = .ok (.return_, 1) := by decide +kernel
theorem dX5_sumOf_0 : decode cX5_sumOf 0 = .ok (.iconst 0, 1) := by decide +kernel
theorem dX5_sumOf_1 : decode cX5_sumOf 1 = .ok (.istore_n 2, 1) := by decide +kernel
theorem dX5_sumOf_2 : decode cX5_sumOf 2 = .ok (.iconst 0, 1) := by decide +kernel
theorem dX5_sumOf_3 : decode cX5_sumOf 3 = .ok (.istore_n 3, 1) := by decide +kernel
theorem dX5_sumOf_4 : decode cX5_sumOf 4 = .ok (.iload_n 3, 1) := by decide +kernel
theorem dX5_sumOf_5 : decode cX5_sumOf 5 = .ok (.aload_n 0, 1) := by decide +kernel
theorem dX5_sumOf_6 : decode cX5_sumOf 6 = .ok (.getfield 46, 3) := by decide +kernel
theorem dX5_sumOf_9 : decode cX5_sumOf 9 = .ok (.if_icmp .ge 22, 3) := by decide +kernel
theorem dX5_sumOf_12 : decode cX5_sumOf 12 = .ok (.iload_n 2, 1) := by decide +kernel
theorem dX5_sumOf_13 : decode cX5_sumOf 13 = .ok (.aload_n 0, 1) := by decide +kernel
theorem dX5_sumOf_14 : decode cX5_sumOf 14 = .ok (.getfield 11, 3) := by decide +kernel
theorem dX5_sumOf_17 : decode cX5_sumOf 17 = .ok (.iload_n 3, 1) := by decide +kernel
theorem dX5_sumOf_18 : decode cX5_sumOf 18 = .ok (.aaload, 1) := by decide +kernel
theorem dX5_sumOf_19 : decode cX5_sumOf 19 = .ok (.iload_n 1, 1) := by decide +kernel
theorem dX5_sumOf_20 : decode cX5_sumOf 20 = .ok (.invokevirtual 88, 3) := by decide +kernel
theorem dX5_sumOf_23 : decode cX5_sumOf 23 = .ok (.iadd, 1) := by decide +kernel
theorem dX5_sumOf_24 : decode cX5_sumOf 24 = .ok (.istore_n 2, 1) := by decide +kernel
theorem dX5_sumOf_25 : decode cX5_sumOf 25 = .ok (.iinc 3 1, 3) := by decide +kernel
theorem dX5_sumOf_28 : decode cX5_sumOf 28 = .ok (.goto (-24), 3) := by decide +kernel
theorem dX5_sumOf_31 : decode cX5_sumOf 31 = .ok (.iload_n 2, 1) := by decide +kernel
theorem dX5_sumOf_32 : decode cX5_sumOf 32 = .ok (.ireturn, 1) := by decide +kernel
theorem dX5_sacksOfCarriers_0 : decode cX5_sacksOfCarriers 0 = .ok (.iconst 0, 1) := by decide +kernel
theorem dX5_sacksOfCarriers_1 : decode cX5_sacksOfCarriers 1 = .ok (.istore_n 1, 1) := by decide +kernel
theorem dX5_sacksOfCarriers_2 : decode cX5_sacksOfCarriers 2 = .ok (.iconst 0, 1) := by decide +kernel
theorem dX5_sacksOfCarriers_3 : decode cX5_sacksOfCarriers 3 = .ok (.istore_n 2, 1) := by decide +kernel
theorem dX5_sacksOfCarriers_4 : decode cX5_sacksOfCarriers 4 = .ok (.iload_n 2, 1) := by decide +kernel
theorem dX5_sacksOfCarriers_5 : decode cX5_sacksOfCarriers 5 = .ok (.aload_n 0, 1) := by decide +kernel
theorem dX5_sacksOfCarriers_6 : decode cX5_sacksOfCarriers 6 = .ok (.getfield 49, 3) := by decide +kernel
theorem dX5_sacksOfCarriers_9 : decode cX5_sacksOfCarriers 9 = .ok (.if_icmp .ge 21, 3) := by decide +kernel
theorem dX5_sacksOfCarriers_12 : decode cX5_sacksOfCarriers 12 = .ok (.iload_n 1, 1) := by decide +kernel
theorem dX5_sacksOfCarriers_13 : decode cX5_sacksOfCarriers 13 = .ok (.aload_n 0, 1) := by decide +kernel
theorem dX5_sacksOfCarriers_14 : decode cX5_sacksOfCarriers 14 = .ok (.getfield 19, 3) := by decide +kernel
theorem dX5_sacksOfCarriers_17 : decode cX5_sacksOfCarriers 17 = .ok (.iload_n 2, 1) := by decide +kernel
theorem dX5_sacksOfCarriers_18 : decode cX5_sacksOfCarriers 18 = .ok (.aaload, 1) := by decide +kernel
theorem dX5_sacksOfCarriers_19 : decode cX5_sacksOfCarriers 19 = .ok (.getfield 92, 3) := by decide +kernel
theorem dX5_sacksOfCarriers_22 : decode cX5_sacksOfCarriers 22 = .ok (.iadd, 1) := by decide +kernel
theorem dX5_sacksOfCarriers_23 : decode cX5_sacksOfCarriers 23 = .ok (.istore_n 1, 1) := by decide +kernel
theorem dX5_sacksOfCarriers_24 : decode cX5_sacksOfCarriers 24 = .ok (.iinc 2 1, 3) := by decide +kernel
theorem dX5_sacksOfCarriers_27 : decode cX5_sacksOfCarriers 27 = .ok (.goto (-23), 3) := by decide +kernel
theorem dX5_sacksOfCarriers_30 : decode cX5_sacksOfCarriers 30 = .ok (.iload_n 1, 1) := by decide +kernel
theorem dX5_sacksOfCarriers_31 : decode cX5_sacksOfCarriers 31 = .ok (.ireturn, 1) := by decide +kernel
theorem dX5_coinsForSacks_0 : decode cX5_coinsForSacks 0 = .ok (.aload_n 0, 1) := by decide +kernel
theorem dX5_coinsForSacks_1 : decode cX5_coinsForSacks 1 = .ok (.getfield 61, 3) := by decide +kernel
theorem dX5_coinsForSacks_4 : decode cX5_coinsForSacks 4 = .ok (.aload_n 0, 1) := by decide +kernel
theorem dX5_coinsForSacks_5 : decode cX5_coinsForSacks 5 = .ok (.iconst 4, 1) := by decide +kernel
theorem dX5_coinsForSacks_6 : decode cX5_coinsForSacks 6 = .ok (.invokevirtual 95, 3) := by decide +kernel
theorem dX5_coinsForSacks_9 : decode cX5_coinsForSacks 9 = .ok (.iadd, 1) := by decide +kernel
theorem dX5_coinsForSacks_10 : decode cX5_coinsForSacks 10 = .ok (.ireturn, 1) := by decide +kernel
theorem dX5_houseOfRank_0 : decode cX5_houseOfRank 0 = .ok (.iconst 0, 1) := by decide +kernel
theorem dX5_houseOfRank_1 : decode cX5_houseOfRank 1 = .ok (.istore_n 2, 1) := by decide +kernel
theorem dX5_houseOfRank_2 : decode cX5_houseOfRank 2 = .ok (.iload_n 2, 1) := by decide +kernel
theorem dX5_houseOfRank_3 : decode cX5_houseOfRank 3 = .ok (.aload_n 0, 1) := by decide +kernel
theorem dX5_houseOfRank_4 : decode cX5_houseOfRank 4 = .ok (.getfield 46, 3) := by decide +kernel
theorem dX5_houseOfRank_7 : decode cX5_houseOfRank 7 = .ok (.if_icmp .ge 49, 3) := by decide +kernel
theorem dX5_houseOfRank_10 : decode cX5_houseOfRank 10 = .ok (.iconst 0, 1) := by decide +kernel
theorem dX5_houseOfRank_11 : decode cX5_houseOfRank 11 = .ok (.istore_n 3, 1) := by decide +kernel
theorem dX5_houseOfRank_12 : decode cX5_houseOfRank 12 = .ok (.iconst 0, 1) := by decide +kernel
theorem dX5_houseOfRank_13 : decode cX5_houseOfRank 13 = .ok (.istore 4, 2) := by decide +kernel
theorem dX5_houseOfRank_15 : decode cX5_houseOfRank 15 = .ok (.iload 4, 2) := by decide +kernel
theorem dX5_houseOfRank_17 : decode cX5_houseOfRank 17 = .ok (.aload_n 0, 1) := by decide +kernel
theorem dX5_houseOfRank_18 : decode cX5_houseOfRank 18 = .ok (.getfield 46, 3) := by decide +kernel
theorem dX5_houseOfRank_21 : decode cX5_houseOfRank 21 = .ok (.if_icmp .ge 22, 3) := by decide +kernel
theorem dX5_houseOfRank_24 : decode cX5_houseOfRank 24 = .ok (.aload_n 0, 1) := by decide +kernel
theorem dX5_houseOfRank_25 : decode cX5_houseOfRank 25 = .ok (.iload 4, 2) := by decide +kernel
theorem dX5_houseOfRank_27 : decode cX5_houseOfRank 27 = .ok (.iload_n 2, 1) := by decide +kernel
theorem dX5_houseOfRank_28 : decode cX5_houseOfRank 28 = .ok (.invokevirtual 105, 3) := by decide +kernel
theorem dX5_houseOfRank_31 : decode cX5_houseOfRank 31 = .ok (.ifCond .eq 6, 3) := by decide +kernel
theorem dX5_houseOfRank_34 : decode cX5_houseOfRank 34 = .ok (.iinc 3 1, 3) := by decide +kernel
theorem dX5_houseOfRank_37 : decode cX5_houseOfRank 37 = .ok (.iinc 4 1, 3) := by decide +kernel
theorem dX5_houseOfRank_40 : decode cX5_houseOfRank 40 = .ok (.goto (-25), 3) := by decide +kernel
theorem dX5_houseOfRank_43 : decode cX5_houseOfRank 43 = .ok (.iload_n 3, 1) := by decide +kernel
theorem dX5_houseOfRank_44 : decode cX5_houseOfRank 44 = .ok (.iload_n 1, 1) := by decide +kernel
theorem dX5_houseOfRank_45 : decode cX5_houseOfRank 45 = .ok (.if_icmp .ne 5, 3) := by decide +kernel
theorem dX5_houseOfRank_48 : decode cX5_houseOfRank 48 = .ok (.iload_n 2, 1) := by decide +kernel
theorem dX5_houseOfRank_49 : decode cX5_houseOfRank 49 = .ok (.ireturn, 1) := by decide +kernel
theorem dX5_houseOfRank_50 : decode cX5_houseOfRank 50 = .ok (.iinc 2 1, 3) := by decide +kernel
theorem dX5_houseOfRank_53 : decode cX5_houseOfRank 53 = .ok (.goto (-51), 3) := by decide +kernel
theorem dX5_houseOfRank_56 : decode cX5_houseOfRank 56 = .ok (.iconst (-1), 1) := by decide +kernel
theorem dX5_houseOfRank_57 : decode cX5_houseOfRank 57 = .ok (.ireturn, 1) := by decide +kernel
theorem dX5_isAhead_0 : decode cX5_isAhead 0 = .ok (.aload_n 0, 1) := by decide +kernel
theorem dX5_isAhead_1 : decode cX5_isAhead 1 = .ok (.iload_n 1, 1) := by decide +kernel
theorem dX5_isAhead_2 : decode cX5_isAhead 2 = .ok (.invokevirtual 71, 3) := by decide +kernel
theorem dX5_isAhead_5 : decode cX5_isAhead 5 = .ok (.astore_n 3, 1) := by decide +kernel
theorem dX5_isAhead_6 : decode cX5_isAhead 6 = .ok (.aload_n 0, 1) := by decide +kernel
theorem dX5_isAhead_7 : decode cX5_isAhead 7 = .ok (.iload_n 2, 1) := by decide +kernel
theorem dX5_isAhead_8 : decode cX5_isAhead 8 = .ok (.invokevirtual 71, 3) := by decide +kernel
theorem dX5_isAhead_11 : decode cX5_isAhead 11 = .ok (.astore 4, 2) := by decide +kernel
theorem dX5_isAhead_13 : decode cX5_isAhead 13 = .ok (.aload_n 3, 1) := by decide +kernel
theorem dX5_isAhead_14 : decode cX5_isAhead 14 = .ok (.ifnull 8, 3) := by decide +kernel
theorem dX5_isAhead_17 : decode cX5_isAhead 17 = .ok (.aload 4, 2) := by decide +kernel
theorem dX5_isAhead_19 : decode cX5_isAhead 19 = .ok (.ifnonnull 5, 3) := by decide +kernel
theorem dX5_isAhead_22 : decode cX5_isAhead 22 = .ok (.iconst 0, 1) := by decide +kernel
theorem dX5_isAhead_23 : decode cX5_isAhead 23 = .ok (.ireturn, 1) := by decide +kernel
theorem dX5_isAhead_24 : decode cX5_isAhead 24 = .ok (.aload_n 3, 1) := by decide +kernel
theorem dX5_isAhead_25 : decode cX5_isAhead 25 = .ok (.getfield 109, 3) := by decide +kernel
theorem dX5_isAhead_28 : decode cX5_isAhead 28 = .ok (.aload 4, 2) := by decide +kernel
theorem dX5_isAhead_30 : decode cX5_isAhead 30 = .ok (.getfield 109, 3) := by decide +kernel
theorem dX5_isAhead_33 : decode cX5_isAhead 33 = .ok (.if_icmp .eq 21, 3) := by decide +kernel
theorem dX5_isAhead_36 : decode cX5_isAhead 36 = .ok (.aload_n 3, 1) := by decide +kernel
theorem dX5_isAhead_37 : decode cX5_isAhead 37 = .ok (.getfield 109, 3) := by decide +kernel
theorem dX5_isAhead_40 : decode cX5_isAhead 40 = .ok (.aload 4, 2) := by decide +kernel
theorem dX5_isAhead_42 : decode cX5_isAhead 42 = .ok (.getfield 109, 3) := by decide +kernel
theorem dX5_isAhead_45 : decode cX5_isAhead 45 = .ok (.if_icmp .le 7, 3) := by decide +kernel
theorem dX5_isAhead_48 : decode cX5_isAhead 48 = .ok (.iconst 1, 1) := by decide +kernel
theorem dX5_isAhead_49 : decode cX5_isAhead 49 = .ok (.goto 4, 3) := by decide +kernel
theorem dX5_isAhead_52 : decode cX5_isAhead 52 = .ok (.iconst 0, 1) := by decide +kernel
theorem dX5_isAhead_53 : decode cX5_isAhead 53 = .ok (.ireturn, 1) := by decide +kernel
theorem dX5_isAhead_54 : decode cX5_isAhead 54 = .ok (.aload_n 3, 1) := by decide +kernel
theorem dX5_isAhead_55 : decode cX5_isAhead 55 = .ok (.getfield 112, 3) := by decide +kernel
theorem dX5_isAhead_58 : decode cX5_isAhead 58 = .ok (.aload 4, 2) := by decide +kernel
theorem dX5_isAhead_60 : decode cX5_isAhead 60 = .ok (.getfield 112, 3) := by decide +kernel
theorem dX5_isAhead_63 : decode cX5_isAhead 63 = .ok (.if_icmp .eq 23, 3) := by decide +kernel
theorem dX5_isAhead_66 : decode cX5_isAhead 66 = .ok (.aload_n 3, 1) := by decide +kernel
theorem dX5_isAhead_67 : decode cX5_isAhead 67 = .ok (.getfield 112, 3) := by decide +kernel
theorem dX5_isAhead_70 : decode cX5_isAhead 70 = .ok (.aload 4, 2) := by decide +kernel
theorem dX5_isAhead_72 : decode cX5_isAhead 72 = .ok (.getfield 112, 3) := by decide +kernel
theorem dX5_isAhead_75 : decode cX5_isAhead 75 = .ok (.if_icmp .le 7, 3) := by decide +kernel
theorem dX5_isAhead_78 : decode cX5_isAhead 78 = .ok (.iconst 1, 1) := by decide +kernel
theorem dX5_isAhead_79 : decode cX5_isAhead 79 = .ok (.goto 17, 3) := by decide +kernel
theorem dX5_isAhead_82 : decode cX5_isAhead 82 = .ok (.iconst 0, 1) := by decide +kernel
theorem dX5_isAhead_83 : decode cX5_isAhead 83 = .ok (.goto 13, 3) := by decide +kernel
theorem dX5_isAhead_86 : decode cX5_isAhead 86 = .ok (.iload_n 1, 1) := by decide +kernel
theorem dX5_isAhead_87 : decode cX5_isAhead 87 = .ok (.iload_n 2, 1) := by decide +kernel
theorem dX5_isAhead_88 : decode cX5_isAhead 88 = .ok (.if_icmp .ge 7, 3) := by decide +kernel
theorem dX5_isAhead_91 : decode cX5_isAhead 91 = .ok (.iconst 1, 1) := by decide +kernel
theorem dX5_isAhead_92 : decode cX5_isAhead 92 = .ok (.goto 4, 3) := by decide +kernel
theorem dX5_isAhead_95 : decode cX5_isAhead 95 = .ok (.iconst 0, 1) := by decide +kernel
theorem dX5_isAhead_96 : decode cX5_isAhead 96 = .ok (.ireturn, 1) := by decide +kernel
theorem dX5_number_0 : decode cX5_number 0 = .ok (.iload_n 1, 1) := by decide +kernel
theorem dX5_number_1 : decode cX5_number 1 = .ok (.tableswitch 135 0 12 #[67, 72, 77, 82, 87, 92, 97, 103, 109, 115, 120, 125, 130], 67) := by decide +kernel
theorem dX5_number_68 : decode cX5_number 68 = .ok (.aload_n 0, 1) := by decide +kernel
theorem dX5_number_69 : decode cX5_number 69 = .ok (.getfield 52, 3) := by decide +kernel
theorem dX5_number_72 : decode cX5_number 72 = .ok (.ireturn, 1) := by decide +kernel
theorem dX5_number_73 : decode cX5_number 73 = .ok (.aload_n 0, 1) := by decide +kernel
theorem dX5_number_74 : decode cX5_number 74 = .ok (.getfield 46, 3) := by decide +kernel
theorem dX5_number_77 : decode cX5_number 77 = .ok (.ireturn, 1) := by decide +kernel
theorem dX5_number_78 : decode cX5_number 78 = .ok (.aload_n 0, 1) := by decide +kernel
theorem dX5_number_79 : decode cX5_number 79 = .ok (.getfield 49, 3) := by decide +kernel
theorem dX5_number_82 : decode cX5_number 82 = .ok (.ireturn, 1) := by decide +kernel
theorem dX5_number_83 : decode cX5_number 83 = .ok (.aload_n 0, 1) := by decide +kernel
theorem dX5_number_84 : decode cX5_number 84 = .ok (.getfield 55, 3) := by decide +kernel
theorem dX5_number_87 : decode cX5_number 87 = .ok (.ireturn, 1) := by decide +kernel
theorem dX5_number_88 : decode cX5_number 88 = .ok (.aload_n 0, 1) := by decide +kernel
theorem dX5_number_89 : decode cX5_number 89 = .ok (.getfield 58, 3) := by decide +kernel
theorem dX5_number_92 : decode cX5_number 92 = .ok (.ireturn, 1) := by decide +kernel
theorem dX5_number_93 : decode cX5_number 93 = .ok (.aload_n 0, 1) := by decide +kernel
theorem dX5_number_94 : decode cX5_number 94 = .ok (.getfield 27, 3) := by decide +kernel
theorem dX5_number_97 : decode cX5_number 97 = .ok (.ireturn, 1) := by decide +kernel
theorem dX5_number_98 : decode cX5_number 98 = .ok (.aload_n 0, 1) := by decide +kernel
theorem dX5_number_99 : decode cX5_number 99 = .ok (.iconst 3, 1) := by decide +kernel
theorem dX5_number_100 : decode cX5_number 100 = .ok (.invokevirtual 95, 3) := by decide +kernel
theorem dX5_number_103 : decode cX5_number 103 = .ok (.ireturn, 1) := by decide +kernel
theorem dX5_number_104 : decode cX5_number 104 = .ok (.aload_n 0, 1) := by decide +kernel
theorem dX5_number_105 : decode cX5_number 105 = .ok (.iconst 4, 1) := by decide +kernel
theorem dX5_number_106 : decode cX5_number 106 = .ok (.invokevirtual 95, 3) := by decide +kernel
theorem dX5_number_109 : decode cX5_number 109 = .ok (.ireturn, 1) := by decide +kernel
theorem dX5_number_110 : decode cX5_number 110 = .ok (.aload_n 0, 1) := by decide +kernel
theorem dX5_number_111 : decode cX5_number 111 = .ok (.iconst 5, 1) := by decide +kernel
theorem dX5_number_112 : decode cX5_number 112 = .ok (.invokevirtual 95, 3) := by decide +kernel
theorem dX5_number_115 : decode cX5_number 115 = .ok (.ireturn, 1) := by decide +kernel
theorem dX5_number_116 : decode cX5_number 116 = .ok (.aload_n 0, 1) := by decide +kernel
theorem dX5_number_117 : decode cX5_number 117 = .ok (.getfield 31, 3) := by decide +kernel
theorem dX5_number_120 : decode cX5_number 120 = .ok (.ireturn, 1) := by decide +kernel
theorem dX5_number_121 : decode cX5_number 121 = .ok (.aload_n 0, 1) := by decide +kernel
theorem dX5_number_122 : decode cX5_number 122 = .ok (.getfield 61, 3) := by decide +kernel
theorem dX5_number_125 : decode cX5_number 125 = .ok (.ireturn, 1) := by decide +kernel
theorem dX5_number_126 : decode cX5_number 126 = .ok (.aload_n 0, 1) := by decide +kernel
theorem dX5_number_127 : decode cX5_number 127 = .ok (.getfield 34, 3) := by decide +kernel
theorem dX5_number_130 : decode cX5_number 130 = .ok (.ireturn, 1) := by decide +kernel
theorem dX5_number_131 : decode cX5_number 131 = .ok (.aload_n 0, 1) := by decide +kernel
theorem dX5_number_132 : decode cX5_number 132 = .ok (.invokevirtual 115, 3) := by decide +kernel
theorem dX5_number_135 : decode cX5_number 135 = .ok (.ireturn, 1) := by decide +kernel
theorem dX5_number_136 : decode cX5_number 136 = .ok (.aload_n 0, 1) := by decide +kernel
theorem dX5_number_137 : decode cX5_number 137 = .ok (.getfield 64, 3) := by decide +kernel
theorem dX5_number_140 : decode cX5_number 140 = .ok (.ireturn, 1) := by decide +kernel
theorem dX6_init_0 : decode cX6_init 0 = .ok (.aload_n 0, 1) := by decide +kernel
theorem dX6_init_1 : decode cX6_init 1 = .ok (.invokespecial 3, 3) := by decide +kernel
theorem dX6_init_4 : decode cX6_init 4 = .ok (.aload_n 0, 1) := by decide +kernel
theorem dX6_init_5 : decode cX6_init 5 = .ok (.new 9, 3) := by decide +kernel
theorem dX6_init_8 : decode cX6_init 8 = .ok (.dup, 1) := by decide +kernel
theorem dX6_init_9 : decode cX6_init 9 = .ok (.invokespecial 11, 3) := by decide +kernel
theorem dX6_init_12 : decode cX6_init 12 = .ok (.putfield 12, 3) := by decide +kernel
theorem dX6_init_15 : decode cX6_init 15 = .ok (.aload_n 0, 1) := by decide +kernel
theorem dX6_init_16 : decode cX6_init 16 = .ok (.new 18, 3) := by decide +kernel
theorem dX6_init_19 : decode cX6_init 19 = .ok (.dup, 1) := by decide +kernel
theorem dX6_init_20 : decode cX6_init 20 = .ok (.invokespecial 20, 3) := by decide +kernel
theorem dX6_init_23 : decode cX6_init 23 = .ok (.putfield 21, 3) := by decide +kernel
theorem dX6_init_26 : decode cX6_init 26 = .ok (.return_, 1) := by decide +kernel
theorem dX6_addHouse_0 : decode cX6_addHouse 0 = .ok (.iload_n 1, 1) := by decide +kernel
theorem dX6_addHouse_1 : decode cX6_addHouse 1 = .ok (.iconst 0, 1) := by decide +kernel
theorem dX6_addHouse_2 : decode cX6_addHouse 2 = .ok (.bipush 9, 2) := by decide +kernel
theorem dX6_addHouse_4 : decode cX6_addHouse 4 = .ok (.invokestatic 25, 3) := by decide +kernel
theorem dX6_addHouse_7 : decode cX6_addHouse 7 = .ok (.ifCond .ne 12, 3) := by decide +kernel
theorem dX6_addHouse_10 : decode cX6_addHouse 10 = .ok (.iload_n 2, 1) := by decide +kernel
theorem dX6_addHouse_11 : decode cX6_addHouse 11 = .ok (.iconst 0, 1) := by decide +kernel
theorem dX6_addHouse_12 : decode cX6_addHouse 12 = .ok (.iconst 2, 1) := by decide +kernel
theorem dX6_addHouse_13 : decode cX6_addHouse 13 = .ok (.invokestatic 25, 3) := by decide +kernel
theorem dX6_addHouse_16 : decode cX6_addHouse 16 = .ok (.ifCond .eq 13, 3) := by decide +kernel
theorem dX6_addHouse_19 : decode cX6_addHouse 19 = .ok (.aload_n 0, 1) := by decide +kernel
theorem dX6_addHouse_20 : decode cX6_addHouse 20 = .ok (.getfield 21, 3) := by decide +kernel
theorem dX6_addHouse_23 : decode cX6_addHouse 23 = .ok (.iconst 1, 1) := by decide +kernel
theorem dX6_addHouse_24 : decode cX6_addHouse 24 = .ok (.iconst 0, 1) := by decide +kernel
theorem dX6_addHouse_25 : decode cX6_addHouse 25 = .ok (.invokevirtual 29, 3) := by decide +kernel
theorem dX6_addHouse_28 : decode cX6_addHouse 28 = .ok (.ireturn, 1) := by decide +kernel
theorem dX6_addHouse_29 : decode cX6_addHouse 29 = .ok (.aload_n 0, 1) := by decide +kernel
theorem dX6_addHouse_30 : decode cX6_addHouse 30 = .ok (.getfield 12, 3) := by decide +kernel
theorem dX6_addHouse_33 : decode cX6_addHouse 33 = .ok (.getfield 33, 3) := by decide +kernel
theorem dX6_addHouse_36 : decode cX6_addHouse 36 = .ok (.istore_n 3, 1) := by decide +kernel
theorem dX6_addHouse_37 : decode cX6_addHouse 37 = .ok (.iload_n 3, 1) := by decide +kernel
theorem dX6_addHouse_38 : decode cX6_addHouse 38 = .ok (.bipush 8, 2) := by decide +kernel
theorem dX6_addHouse_40 : decode cX6_addHouse 40 = .ok (.if_icmp .lt 14, 3) := by decide +kernel
theorem dX6_addHouse_43 : decode cX6_addHouse 43 = .ok (.aload_n 0, 1) := by decide +kernel
theorem dX6_addHouse_44 : decode cX6_addHouse 44 = .ok (.getfield 21, 3) := by decide +kernel
theorem dX6_addHouse_47 : decode cX6_addHouse 47 = .ok (.iconst 2, 1) := by decide +kernel
theorem dX6_addHouse_48 : decode cX6_addHouse 48 = .ok (.bipush 8, 2) := by decide +kernel
theorem dX6_addHouse_50 : decode cX6_addHouse 50 = .ok (.invokevirtual 29, 3) := by decide +kernel
theorem dX6_addHouse_53 : decode cX6_addHouse 53 = .ok (.ireturn, 1) := by decide +kernel
theorem dX6_addHouse_54 : decode cX6_addHouse 54 = .ok (.aload_n 0, 1) := by decide +kernel
theorem dX6_addHouse_55 : decode cX6_addHouse 55 = .ok (.getfield 12, 3) := by decide +kernel
theorem dX6_addHouse_58 : decode cX6_addHouse 58 = .ok (.getfield 37, 3) := by decide +kernel
theorem dX6_addHouse_61 : decode cX6_addHouse 61 = .ok (.iload_n 3, 1) := by decide +kernel
theorem dX6_addHouse_62 : decode cX6_addHouse 62 = .ok (.aaload, 1) := by decide +kernel
theorem dX6_addHouse_63 : decode cX6_addHouse 63 = .ok (.iload_n 1, 1) := by decide +kernel
theorem dX6_addHouse_64 : decode cX6_addHouse 64 = .ok (.putfield 41, 3) := by decide +kernel
theorem dX6_addHouse_67 : decode cX6_addHouse 67 = .ok (.aload_n 0, 1) := by decide +kernel
theorem dX6_addHouse_68 : decode cX6_addHouse 68 = .ok (.getfield 12, 3) := by decide +kernel
theorem dX6_addHouse_71 : decode cX6_addHouse 71 = .ok (.getfield 37, 3) := by decide +kernel
theorem dX6_addHouse_74 : decode cX6_addHouse 74 = .ok (.iload_n 3, 1) := by decide +kernel
theorem dX6_addHouse_75 : decode cX6_addHouse 75 = .ok (.aaload, 1) := by decide +kernel
theorem dX6_addHouse_76 : decode cX6_addHouse 76 = .ok (.iload_n 2, 1) := by decide +kernel
theorem dX6_addHouse_77 : decode cX6_addHouse 77 = .ok (.putfield 46, 3) := by decide +kernel
theorem dX6_addHouse_80 : decode cX6_addHouse 80 = .ok (.aload_n 0, 1) := by decide +kernel
theorem dX6_addHouse_81 : decode cX6_addHouse 81 = .ok (.getfield 12, 3) := by decide +kernel
theorem dX6_addHouse_84 : decode cX6_addHouse 84 = .ok (.dup, 1) := by decide +kernel
theorem dX6_addHouse_85 : decode cX6_addHouse 85 = .ok (.getfield 33, 3) := by decide +kernel
theorem dX6_addHouse_88 : decode cX6_addHouse 88 = .ok (.iconst 1, 1) := by decide +kernel
theorem dX6_addHouse_89 : decode cX6_addHouse 89 = .ok (.iadd, 1) := by decide +kernel
theorem dX6_addHouse_90 : decode cX6_addHouse 90 = .ok (.putfield 33, 3) := by decide +kernel
theorem dX6_addHouse_93 : decode cX6_addHouse 93 = .ok (.iload_n 3, 1) := by decide +kernel
theorem dX6_addHouse_94 : decode cX6_addHouse 94 = .ok (.ireturn, 1) := by decide +kernel
theorem dX6_setOrder_0 : decode cX6_setOrder 0 = .ok (.aload_n 0, 1) := by decide +kernel
theorem dX6_setOrder_1 : decode cX6_setOrder 1 = .ok (.getfield 12, 3) := by decide +kernel
theorem dX6_setOrder_4 : decode cX6_setOrder 4 = .ok (.iload_n 1, 1) := by decide +kernel
theorem dX6_setOrder_5 : decode cX6_setOrder 5 = .ok (.invokevirtual 49, 3) := by decide +kernel
theorem dX6_setOrder_8 : decode cX6_setOrder 8 = .ok (.astore_n 3, 1) := by decide +kernel
theorem dX6_setOrder_9 : decode cX6_setOrder 9 = .ok (.aload_n 3, 1) := by decide +kernel
theorem dX6_setOrder_10 : decode cX6_setOrder 10 = .ok (.ifnonnull 13, 3) := by decide +kernel
theorem dX6_setOrder_13 : decode cX6_setOrder 13 = .ok (.aload_n 0, 1) := by decide +kernel
theorem dX6_setOrder_14 : decode cX6_setOrder 14 = .ok (.getfield 21, 3) := by decide +kernel
theorem dX6_setOrder_17 : decode cX6_setOrder 17 = .ok (.iconst 3, 1) := by decide +kernel
theorem dX6_setOrder_18 : decode cX6_setOrder 18 = .ok (.iload_n 1, 1) := by decide +kernel
theorem dX6_setOrder_19 : decode cX6_setOrder 19 = .ok (.invokevirtual 29, 3) := by decide +kernel
theorem dX6_setOrder_22 : decode cX6_setOrder 22 = .ok (.ireturn, 1) := by decide +kernel
theorem dX6_setOrder_23 : decode cX6_setOrder 23 = .ok (.iload_n 2, 1) := by decide +kernel
theorem dX6_setOrder_24 : decode cX6_setOrder 24 = .ok (.iconst 0, 1) := by decide +kernel
theorem dX6_setOrder_25 : decode cX6_setOrder 25 = .ok (.iconst 4, 1) := by decide +kernel
theorem dX6_setOrder_26 : decode cX6_setOrder 26 = .ok (.invokestatic 25, 3) := by decide +kernel
theorem dX6_setOrder_29 : decode cX6_setOrder 29 = .ok (.ifCond .eq 13, 3) := by decide +kernel
theorem dX6_setOrder_32 : decode cX6_setOrder 32 = .ok (.aload_n 0, 1) := by decide +kernel
theorem dX6_setOrder_33 : decode cX6_setOrder 33 = .ok (.getfield 21, 3) := by decide +kernel
theorem dX6_setOrder_36 : decode cX6_setOrder 36 = .ok (.iconst 1, 1) := by decide +kernel
theorem dX6_setOrder_37 : decode cX6_setOrder 37 = .ok (.iconst 0, 1) := by decide +kernel
theorem dX6_setOrder_38 : decode cX6_setOrder 38 = .ok (.invokevirtual 29, 3) := by decide +kernel
theorem dX6_setOrder_41 : decode cX6_setOrder 41 = .ok (.ireturn, 1) := by decide +kernel
theorem dX6_setOrder_42 : decode cX6_setOrder 42 = .ok (.aload_n 3, 1) := by decide +kernel
theorem dX6_setOrder_43 : decode cX6_setOrder 43 = .ok (.getfield 53, 3) := by decide +kernel
theorem dX6_setOrder_46 : decode cX6_setOrder 46 = .ok (.istore 4, 2) := by decide +kernel
theorem dX6_setOrder_48 : decode cX6_setOrder 48 = .ok (.aload_n 3, 1) := by decide +kernel
theorem dX6_setOrder_49 : decode cX6_setOrder 49 = .ok (.iload_n 2, 1) := by decide +kernel
theorem dX6_setOrder_50 : decode cX6_setOrder 50 = .ok (.putfield 53, 3) := by decide +kernel
theorem dX6_setOrder_53 : decode cX6_setOrder 53 = .ok (.iload 4, 2) := by decide +kernel
theorem dX6_setOrder_55 : decode cX6_setOrder 55 = .ok (.ireturn, 1) := by decide +kernel
theorem dX6_addCarrier_0 : decode cX6_addCarrier 0 = .ok (.iload_n 1, 1) := by decide +kernel
theorem dX6_addCarrier_1 : decode cX6_addCarrier 1 = .ok (.iconst 1, 1) := by decide +kernel
theorem dX6_addCarrier_2 : decode cX6_addCarrier 2 = .ok (.bipush 9, 2) := by decide +kernel
theorem dX6_addCarrier_4 : decode cX6_addCarrier 4 = .ok (.invokestatic 25, 3) := by decide +kernel
theorem dX6_addCarrier_7 : decode cX6_addCarrier 7 = .ok (.ifCond .eq 13, 3) := by decide +kernel
theorem dX6_addCarrier_10 : decode cX6_addCarrier 10 = .ok (.aload_n 0, 1) := by decide +kernel
theorem dX6_addCarrier_11 : decode cX6_addCarrier 11 = .ok (.getfield 21, 3) := by decide +kernel
theorem dX6_addCarrier_14 : decode cX6_addCarrier 14 = .ok (.iconst 1, 1) := by decide +kernel
theorem dX6_addCarrier_15 : decode cX6_addCarrier 15 = .ok (.iconst 0, 1) := by decide +kernel
theorem dX6_addCarrier_16 : decode cX6_addCarrier 16 = .ok (.invokevirtual 29, 3) := by decide +kernel
theorem dX6_addCarrier_19 : decode cX6_addCarrier 19 = .ok (.ireturn, 1) := by decide +kernel
theorem dX6_addCarrier_20 : decode cX6_addCarrier 20 = .ok (.aload_n 0, 1) := by decide +kernel
theorem dX6_addCarrier_21 : decode cX6_addCarrier 21 = .ok (.getfield 12, 3) := by decide +kernel
theorem dX6_addCarrier_24 : decode cX6_addCarrier 24 = .ok (.getfield 56, 3) := by decide +kernel
theorem dX6_addCarrier_27 : decode cX6_addCarrier 27 = .ok (.istore_n 2, 1) := by decide +kernel
theorem dX6_addCarrier_28 : decode cX6_addCarrier 28 = .ok (.iload_n 2, 1) := by decide +kernel
theorem dX6_addCarrier_29 : decode cX6_addCarrier 29 = .ok (.iconst 4, 1) := by decide +kernel
theorem dX6_addCarrier_30 : decode cX6_addCarrier 30 = .ok (.if_icmp .lt 13, 3) := by decide +kernel
theorem dX6_addCarrier_33 : decode cX6_addCarrier 33 = .ok (.aload_n 0, 1) := by decide +kernel
theorem dX6_addCarrier_34 : decode cX6_addCarrier 34 = .ok (.getfield 21, 3) := by decide +kernel
theorem dX6_addCarrier_37 : decode cX6_addCarrier 37 = .ok (.iconst 2, 1) := by decide +kernel
theorem dX6_addCarrier_38 : decode cX6_addCarrier 38 = .ok (.iconst 4, 1) := by decide +kernel
theorem dX6_addCarrier_39 : decode cX6_addCarrier 39 = .ok (.invokevirtual 29, 3) := by decide +kernel
theorem dX6_addCarrier_42 : decode cX6_addCarrier 42 = .ok (.ireturn, 1) := by decide +kernel
theorem dX6_addCarrier_43 : decode cX6_addCarrier 43 = .ok (.aload_n 0, 1) := by decide +kernel
theorem dX6_addCarrier_44 : decode cX6_addCarrier 44 = .ok (.getfield 12, 3) := by decide +kernel
theorem dX6_addCarrier_47 : decode cX6_addCarrier 47 = .ok (.getfield 59, 3) := by decide +kernel
theorem dX6_addCarrier_50 : decode cX6_addCarrier 50 = .ok (.iload_n 2, 1) := by decide +kernel
theorem dX6_addCarrier_51 : decode cX6_addCarrier 51 = .ok (.aaload, 1) := by decide +kernel
theorem dX6_addCarrier_52 : decode cX6_addCarrier 52 = .ok (.iload_n 1, 1) := by decide +kernel
theorem dX6_addCarrier_53 : decode cX6_addCarrier 53 = .ok (.putfield 63, 3) := by decide +kernel
theorem dX6_addCarrier_56 : decode cX6_addCarrier 56 = .ok (.aload_n 0, 1) := by decide +kernel
theorem dX6_addCarrier_57 : decode cX6_addCarrier 57 = .ok (.getfield 12, 3) := by decide +kernel
theorem dX6_addCarrier_60 : decode cX6_addCarrier 60 = .ok (.dup, 1) := by decide +kernel
theorem dX6_addCarrier_61 : decode cX6_addCarrier 61 = .ok (.getfield 56, 3) := by decide +kernel
theorem dX6_addCarrier_64 : decode cX6_addCarrier 64 = .ok (.iconst 1, 1) := by decide +kernel
theorem dX6_addCarrier_65 : decode cX6_addCarrier 65 = .ok (.iadd, 1) := by decide +kernel
theorem dX6_addCarrier_66 : decode cX6_addCarrier 66 = .ok (.putfield 56, 3) := by decide +kernel
theorem dX6_addCarrier_69 : decode cX6_addCarrier 69 = .ok (.iload_n 2, 1) := by decide +kernel
theorem dX6_addCarrier_70 : decode cX6_addCarrier 70 = .ok (.ireturn, 1) := by decide +kernel
theorem dX6_loadCart_0 : decode cX6_loadCart 0 = .ok (.iload_n 1, 1) := by decide +kernel
theorem dX6_loadCart_1 : decode cX6_loadCart 1 = .ok (.iconst 1, 1) := by decide +kernel
theorem dX6_loadCart_2 : decode cX6_loadCart 2 = .ok (.bipush 30, 2) := by decide +kernel
theorem dX6_loadCart_4 : decode cX6_loadCart 4 = .ok (.invokestatic 25, 3) := by decide +kernel
theorem dX6_loadCart_7 : decode cX6_loadCart 7 = .ok (.ifCond .eq 13, 3) := by decide +kernel
theorem dX6_loadCart_10 : decode cX6_loadCart 10 = .ok (.aload_n 0, 1) := by decide +kernel
theorem dX6_loadCart_11 : decode cX6_loadCart 11 = .ok (.getfield 21, 3) := by decide +kernel
theorem dX6_loadCart_14 : decode cX6_loadCart 14 = .ok (.iconst 1, 1) := by decide +kernel
theorem dX6_loadCart_15 : decode cX6_loadCart 15 = .ok (.iconst 0, 1) := by decide +kernel
theorem dX6_loadCart_16 : decode cX6_loadCart 16 = .ok (.invokevirtual 29, 3) := by decide +kernel
theorem dX6_loadCart_19 : decode cX6_loadCart 19 = .ok (.ireturn, 1) := by decide +kernel
theorem dX6_loadCart_20 : decode cX6_loadCart 20 = .ok (.aload_n 0, 1) := by decide +kernel
theorem dX6_loadCart_21 : decode cX6_loadCart 21 = .ok (.getfield 12, 3) := by decide +kernel
theorem dX6_loadCart_24 : decode cX6_loadCart 24 = .ok (.getfield 68, 3) := by decide +kernel
theorem dX6_loadCart_27 : decode cX6_loadCart 27 = .ok (.ifCond .eq 20, 3) := by decide +kernel
theorem dX6_loadCart_30 : decode cX6_loadCart 30 = .ok (.aload_n 0, 1) := by decide +kernel
theorem dX6_loadCart_31 : decode cX6_loadCart 31 = .ok (.getfield 21, 3) := by decide +kernel
theorem dX6_loadCart_34 : decode cX6_loadCart 34 = .ok (.bipush 6, 2) := by decide +kernel
theorem dX6_loadCart_36 : decode cX6_loadCart 36 = .ok (.aload_n 0, 1) := by decide +kernel
theorem dX6_loadCart_37 : decode cX6_loadCart 37 = .ok (.getfield 12, 3) := by decide +kernel
theorem dX6_loadCart_40 : decode cX6_loadCart 40 = .ok (.getfield 68, 3) := by decide +kernel
theorem dX6_loadCart_43 : decode cX6_loadCart 43 = .ok (.invokevirtual 29, 3) := by decide +kernel
theorem dX6_loadCart_46 : decode cX6_loadCart 46 = .ok (.ireturn, 1) := by decide +kernel
theorem dX6_loadCart_47 : decode cX6_loadCart 47 = .ok (.iload_n 1, 1) := by decide +kernel
theorem dX6_loadCart_48 : decode cX6_loadCart 48 = .ok (.aload_n 0, 1) := by decide +kernel
theorem dX6_loadCart_49 : decode cX6_loadCart 49 = .ok (.getfield 12, 3) := by decide +kernel
theorem dX6_loadCart_52 : decode cX6_loadCart 52 = .ok (.getfield 71, 3) := by decide +kernel
theorem dX6_loadCart_55 : decode cX6_loadCart 55 = .ok (.if_icmp .le 20, 3) := by decide +kernel
theorem dX6_loadCart_58 : decode cX6_loadCart 58 = .ok (.aload_n 0, 1) := by decide +kernel
theorem dX6_loadCart_59 : decode cX6_loadCart 59 = .ok (.getfield 21, 3) := by decide +kernel
theorem dX6_loadCart_62 : decode cX6_loadCart 62 = .ok (.bipush 8, 2) := by decide +kernel
theorem dX6_loadCart_64 : decode cX6_loadCart 64 = .ok (.aload_n 0, 1) := by decide +kernel
theorem dX6_loadCart_65 : decode cX6_loadCart 65 = .ok (.getfield 12, 3) := by decide +kernel
theorem dX6_loadCart_68 : decode cX6_loadCart 68 = .ok (.getfield 71, 3) := by decide +kernel
theorem dX6_loadCart_71 : decode cX6_loadCart 71 = .ok (.invokevirtual 29, 3) := by decide +kernel
theorem dX6_loadCart_74 : decode cX6_loadCart 74 = .ok (.ireturn, 1) := by decide +kernel
theorem dX6_loadCart_75 : decode cX6_loadCart 75 = .ok (.aload_n 0, 1) := by decide +kernel
theorem dX6_loadCart_76 : decode cX6_loadCart 76 = .ok (.getfield 12, 3) := by decide +kernel
theorem dX6_loadCart_79 : decode cX6_loadCart 79 = .ok (.getfield 74, 3) := by decide +kernel
theorem dX6_loadCart_82 : decode cX6_loadCart 82 = .ok (.iload_n 1, 1) := by decide +kernel
theorem dX6_loadCart_83 : decode cX6_loadCart 83 = .ok (.iadd, 1) := by decide +kernel
theorem dX6_loadCart_84 : decode cX6_loadCart 84 = .ok (.bipush 30, 2) := by decide +kernel
theorem dX6_loadCart_86 : decode cX6_loadCart 86 = .ok (.if_icmp .le 14, 3) := by decide +kernel
theorem dX6_loadCart_89 : decode cX6_loadCart 89 = .ok (.aload_n 0, 1) := by decide +kernel
theorem dX6_loadCart_90 : decode cX6_loadCart 90 = .ok (.getfield 21, 3) := by decide +kernel
theorem dX6_loadCart_93 : decode cX6_loadCart 93 = .ok (.iconst 2, 1) := by decide +kernel
theorem dX6_loadCart_94 : decode cX6_loadCart 94 = .ok (.bipush 30, 2) := by decide +kernel
theorem dX6_loadCart_96 : decode cX6_loadCart 96 = .ok (.invokevirtual 29, 3) := by decide +kernel
theorem dX6_loadCart_99 : decode cX6_loadCart 99 = .ok (.ireturn, 1) := by decide +kernel
theorem dX6_loadCart_100 : decode cX6_loadCart 100 = .ok (.aload_n 0, 1) := by decide +kernel
theorem dX6_loadCart_101 : decode cX6_loadCart 101 = .ok (.getfield 12, 3) := by decide +kernel
theorem dX6_loadCart_104 : decode cX6_loadCart 104 = .ok (.dup, 1) := by decide +kernel
theorem dX6_loadCart_105 : decode cX6_loadCart 105 = .ok (.getfield 71, 3) := by decide +kernel
theorem dX6_loadCart_108 : decode cX6_loadCart 108 = .ok (.iload_n 1, 1) := by decide +kernel
theorem dX6_loadCart_109 : decode cX6_loadCart 109 = .ok (.isub, 1) := by decide +kernel
theorem dX6_loadCart_110 : decode cX6_loadCart 110 = .ok (.putfield 71, 3) := by decide +kernel
theorem dX6_loadCart_113 : decode cX6_loadCart 113 = .ok (.aload_n 0, 1) := by decide +kernel
theorem dX6_loadCart_114 : decode cX6_loadCart 114 = .ok (.getfield 12, 3) := by decide +kernel
theorem dX6_loadCart_117 : decode cX6_loadCart 117 = .ok (.dup, 1) := by decide +kernel
theorem dX6_loadCart_118 : decode cX6_loadCart 118 = .ok (.getfield 74, 3) := by decide +kernel
theorem dX6_loadCart_121 : decode cX6_loadCart 121 = .ok (.iload_n 1, 1) := by decide +kernel
theorem dX6_loadCart_122 : decode cX6_loadCart 122 = .ok (.iadd, 1) := by decide +kernel
theorem dX6_loadCart_123 : decode cX6_loadCart 123 = .ok (.putfield 74, 3) := by decide +kernel
theorem dX6_loadCart_126 : decode cX6_loadCart 126 = .ok (.aload_n 0, 1) := by decide +kernel
theorem dX6_loadCart_127 : decode cX6_loadCart 127 = .ok (.getfield 12, 3) := by decide +kernel
theorem dX6_loadCart_130 : decode cX6_loadCart 130 = .ok (.getfield 74, 3) := by decide +kernel
theorem dX6_loadCart_133 : decode cX6_loadCart 133 = .ok (.ireturn, 1) := by decide +kernel
theorem dX6_driveCart_0 : decode cX6_driveCart 0 = .ok (.iload_n 1, 1) := by decide +kernel
theorem dX6_driveCart_1 : decode cX6_driveCart 1 = .ok (.iconst 0, 1) := by decide +kernel
theorem dX6_driveCart_2 : decode cX6_driveCart 2 = .ok (.aload_n 0, 1) := by decide +kernel
theorem dX6_driveCart_3 : decode cX6_driveCart 3 = .ok (.getfield 12, 3) := by decide +kernel
theorem dX6_driveCart_6 : decode cX6_driveCart 6 = .ok (.getfield 33, 3) := by decide +kernel
theorem dX6_driveCart_9 : decode cX6_driveCart 9 = .ok (.invokestatic 25, 3) := by decide +kernel
theorem dX6_driveCart_12 : decode cX6_driveCart 12 = .ok (.ifCond .eq 13, 3) := by decide +kernel
theorem dX6_driveCart_15 : decode cX6_driveCart 15 = .ok (.aload_n 0, 1) := by decide +kernel
theorem dX6_driveCart_16 : decode cX6_driveCart 16 = .ok (.getfield 21, 3) := by decide +kernel
theorem dX6_driveCart_19 : decode cX6_driveCart 19 = .ok (.iconst 3, 1) := by decide +kernel
theorem dX6_driveCart_20 : decode cX6_driveCart 20 = .ok (.iload_n 1, 1) := by decide +kernel
theorem dX6_driveCart_21 : decode cX6_driveCart 21 = .ok (.invokevirtual 29, 3) := by decide +kernel
theorem dX6_driveCart_24 : decode cX6_driveCart 24 = .ok (.ireturn, 1) := by decide +kernel
theorem dX6_driveCart_25 : decode cX6_driveCart 25 = .ok (.iload_n 1, 1) := by decide +kernel
theorem dX6_driveCart_26 : decode cX6_driveCart 26 = .ok (.aload_n 0, 1) := by decide +kernel
theorem dX6_driveCart_27 : decode cX6_driveCart 27 = .ok (.getfield 12, 3) := by decide +kernel
theorem dX6_driveCart_30 : decode cX6_driveCart 30 = .ok (.getfield 68, 3) := by decide +kernel
theorem dX6_driveCart_33 : decode cX6_driveCart 33 = .ok (.if_icmp .ne 13, 3) := by decide +kernel
theorem dX6_driveCart_36 : decode cX6_driveCart 36 = .ok (.aload_n 0, 1) := by decide +kernel
theorem dX6_driveCart_37 : decode cX6_driveCart 37 = .ok (.getfield 21, 3) := by decide +kernel
theorem dX6_driveCart_40 : decode cX6_driveCart 40 = .ok (.iconst 4, 1) := by decide +kernel
theorem dX6_driveCart_41 : decode cX6_driveCart 41 = .ok (.iload_n 1, 1) := by decide +kernel
theorem dX6_driveCart_42 : decode cX6_driveCart 42 = .ok (.invokevirtual 29, 3) := by decide +kernel
theorem dX6_driveCart_45 : decode cX6_driveCart 45 = .ok (.ireturn, 1) := by decide +kernel
theorem dX6_driveCart_46 : decode cX6_driveCart 46 = .ok (.aload_n 0, 1) := by decide +kernel
theorem dX6_driveCart_47 : decode cX6_driveCart 47 = .ok (.getfield 12, 3) := by decide +kernel
theorem dX6_driveCart_50 : decode cX6_driveCart 50 = .ok (.invokevirtual 77, 3) := by decide +kernel
theorem dX6_driveCart_53 : decode cX6_driveCart 53 = .ok (.istore_n 2, 1) := by decide +kernel
theorem dX6_driveCart_54 : decode cX6_driveCart 54 = .ok (.iload_n 1, 1) := by decide +kernel
theorem dX6_driveCart_55 : decode cX6_driveCart 55 = .ok (.aload_n 0, 1) := by decide +kernel
theorem dX6_driveCart_56 : decode cX6_driveCart 56 = .ok (.getfield 12, 3) := by decide +kernel
theorem dX6_driveCart_59 : decode cX6_driveCart 59 = .ok (.getfield 68, 3) := by decide +kernel
theorem dX6_driveCart_62 : decode cX6_driveCart 62 = .ok (.if_icmp .le 18, 3) := by decide +kernel
theorem dX6_driveCart_65 : decode cX6_driveCart 65 = .ok (.iload_n 2, 1) := by decide +kernel
theorem dX6_driveCart_66 : decode cX6_driveCart 66 = .ok (.iconst 3, 1) := by decide +kernel
theorem dX6_driveCart_67 : decode cX6_driveCart 67 = .ok (.if_icmp .ge 13, 3) := by decide +kernel
theorem dX6_driveCart_70 : decode cX6_driveCart 70 = .ok (.aload_n 0, 1) := by decide +kernel
theorem dX6_driveCart_71 : decode cX6_driveCart 71 = .ok (.getfield 21, 3) := by decide +kernel
theorem dX6_driveCart_74 : decode cX6_driveCart 74 = .ok (.iconst 5, 1) := by decide +kernel
theorem dX6_driveCart_75 : decode cX6_driveCart 75 = .ok (.iload_n 2, 1) := by decide +kernel
theorem dX6_driveCart_76 : decode cX6_driveCart 76 = .ok (.invokevirtual 29, 3) := by decide +kernel
theorem dX6_driveCart_79 : decode cX6_driveCart 79 = .ok (.ireturn, 1) := by decide +kernel
theorem dX6_driveCart_80 : decode cX6_driveCart 80 = .ok (.aload_n 0, 1) := by decide +kernel
theorem dX6_driveCart_81 : decode cX6_driveCart 81 = .ok (.getfield 12, 3) := by decide +kernel
theorem dX6_driveCart_84 : decode cX6_driveCart 84 = .ok (.iconst 0, 1) := by decide +kernel
theorem dX6_driveCart_85 : decode cX6_driveCart 85 = .ok (.iload_n 1, 1) := by decide +kernel
theorem dX6_driveCart_86 : decode cX6_driveCart 86 = .ok (.aload_n 0, 1) := by decide +kernel
theorem dX6_driveCart_87 : decode cX6_driveCart 87 = .ok (.getfield 12, 3) := by decide +kernel
theorem dX6_driveCart_90 : decode cX6_driveCart 90 = .ok (.getfield 68, 3) := by decide +kernel
theorem dX6_driveCart_93 : decode cX6_driveCart 93 = .ok (.isub, 1) := by decide +kernel
theorem dX6_driveCart_94 : decode cX6_driveCart 94 = .ok (.invokestatic 81, 3) := by decide +kernel
theorem dX6_driveCart_97 : decode cX6_driveCart 97 = .ok (.invokevirtual 86, 3) := by decide +kernel
theorem dX6_driveCart_100 : decode cX6_driveCart 100 = .ok (.aload_n 0, 1) := by decide +kernel
theorem dX6_driveCart_101 : decode cX6_driveCart 101 = .ok (.getfield 12, 3) := by decide +kernel
theorem dX6_driveCart_104 : decode cX6_driveCart 104 = .ok (.iload_n 1, 1) := by decide +kernel
theorem dX6_driveCart_105 : decode cX6_driveCart 105 = .ok (.putfield 68, 3) := by decide +kernel
theorem dX6_driveCart_108 : decode cX6_driveCart 108 = .ok (.aload_n 0, 1) := by decide +kernel
theorem dX6_driveCart_109 : decode cX6_driveCart 109 = .ok (.getfield 12, 3) := by decide +kernel
theorem dX6_driveCart_112 : decode cX6_driveCart 112 = .ok (.invokevirtual 77, 3) := by decide +kernel
theorem dX6_driveCart_115 : decode cX6_driveCart 115 = .ok (.ireturn, 1) := by decide +kernel
theorem dX6_carryUp_0 : decode cX6_carryUp 0 = .ok (.aload_n 0, 1) := by decide +kernel
theorem dX6_carryUp_1 : decode cX6_carryUp 1 = .ok (.getfield 12, 3) := by decide +kernel
theorem dX6_carryUp_4 : decode cX6_carryUp 4 = .ok (.iload_n 1, 1) := by decide +kernel
theorem dX6_carryUp_5 : decode cX6_carryUp 5 = .ok (.invokevirtual 90, 3) := by decide +kernel
theorem dX6_carryUp_8 : decode cX6_carryUp 8 = .ok (.astore_n 3, 1) := by decide +kernel
theorem dX6_carryUp_9 : decode cX6_carryUp 9 = .ok (.aload_n 3, 1) := by decide +kernel
theorem dX6_carryUp_10 : decode cX6_carryUp 10 = .ok (.ifnonnull 13, 3) := by decide +kernel
theorem dX6_carryUp_13 : decode cX6_carryUp 13 = .ok (.aload_n 0, 1) := by decide +kernel
theorem dX6_carryUp_14 : decode cX6_carryUp 14 = .ok (.getfield 21, 3) := by decide +kernel
theorem dX6_carryUp_17 : decode cX6_carryUp 17 = .ok (.iconst 3, 1) := by decide +kernel
theorem dX6_carryUp_18 : decode cX6_carryUp 18 = .ok (.iload_n 1, 1) := by decide +kernel
theorem dX6_carryUp_19 : decode cX6_carryUp 19 = .ok (.invokevirtual 29, 3) := by decide +kernel
theorem dX6_carryUp_22 : decode cX6_carryUp 22 = .ok (.ireturn, 1) := by decide +kernel
theorem dX6_carryUp_23 : decode cX6_carryUp 23 = .ok (.iload_n 2, 1) := by decide +kernel
theorem dX6_carryUp_24 : decode cX6_carryUp 24 = .ok (.iconst 1, 1) := by decide +kernel
theorem dX6_carryUp_25 : decode cX6_carryUp 25 = .ok (.bipush 9, 2) := by decide +kernel
theorem dX6_carryUp_27 : decode cX6_carryUp 27 = .ok (.invokestatic 25, 3) := by decide +kernel
theorem dX6_carryUp_30 : decode cX6_carryUp 30 = .ok (.ifCond .eq 13, 3) := by decide +kernel
theorem dX6_carryUp_33 : decode cX6_carryUp 33 = .ok (.aload_n 0, 1) := by decide +kernel
theorem dX6_carryUp_34 : decode cX6_carryUp 34 = .ok (.getfield 21, 3) := by decide +kernel
theorem dX6_carryUp_37 : decode cX6_carryUp 37 = .ok (.iconst 1, 1) := by decide +kernel
theorem dX6_carryUp_38 : decode cX6_carryUp 38 = .ok (.iconst 0, 1) := by decide +kernel
theorem dX6_carryUp_39 : decode cX6_carryUp 39 = .ok (.invokevirtual 29, 3) := by decide +kernel
theorem dX6_carryUp_42 : decode cX6_carryUp 42 = .ok (.ireturn, 1) := by decide +kernel
theorem dX6_carryUp_43 : decode cX6_carryUp 43 = .ok (.aload_n 0, 1) := by decide +kernel
theorem dX6_carryUp_44 : decode cX6_carryUp 44 = .ok (.getfield 12, 3) := by decide +kernel
theorem dX6_carryUp_47 : decode cX6_carryUp 47 = .ok (.invokevirtual 94, 3) := by decide +kernel
theorem dX6_carryUp_50 : decode cX6_carryUp 50 = .ok (.astore 4, 2) := by decide +kernel
theorem dX6_carryUp_52 : decode cX6_carryUp 52 = .ok (.aload 4, 2) := by decide +kernel
theorem dX6_carryUp_54 : decode cX6_carryUp 54 = .ok (.ifnonnull 14, 3) := by decide +kernel
theorem dX6_carryUp_57 : decode cX6_carryUp 57 = .ok (.aload_n 0, 1) := by decide +kernel
theorem dX6_carryUp_58 : decode cX6_carryUp 58 = .ok (.getfield 21, 3) := by decide +kernel
theorem dX6_carryUp_61 : decode cX6_carryUp 61 = .ok (.bipush 7, 2) := by decide +kernel
theorem dX6_carryUp_63 : decode cX6_carryUp 63 = .ok (.iconst 0, 1) := by decide +kernel
theorem dX6_carryUp_64 : decode cX6_carryUp 64 = .ok (.invokevirtual 29, 3) := by decide +kernel
theorem dX6_carryUp_67 : decode cX6_carryUp 67 = .ok (.ireturn, 1) := by decide +kernel
theorem dX6_carryUp_68 : decode cX6_carryUp 68 = .ok (.aload_n 0, 1) := by decide +kernel
theorem dX6_carryUp_69 : decode cX6_carryUp 69 = .ok (.aload 4, 2) := by decide +kernel
theorem dX6_carryUp_71 : decode cX6_carryUp 71 = .ok (.iload_n 2, 1) := by decide +kernel
theorem dX6_carryUp_72 : decode cX6_carryUp 72 = .ok (.invokevirtual 98, 3) := by decide +kernel
theorem dX6_carryUp_75 : decode cX6_carryUp 75 = .ok (.ifCond .eq 5, 3) := by decide +kernel
theorem dX6_carryUp_78 : decode cX6_carryUp 78 = .ok (.iconst (-1), 1) := by decide +kernel
theorem dX6_carryUp_79 : decode cX6_carryUp 79 = .ok (.ireturn, 1) := by decide +kernel
theorem dX6_carryUp_80 : decode cX6_carryUp 80 = .ok (.aload_n 3, 1) := by decide +kernel
theorem dX6_carryUp_81 : decode cX6_carryUp 81 = .ok (.getfield 102, 3) := by decide +kernel
theorem dX6_carryUp_84 : decode cX6_carryUp 84 = .ok (.iload_n 2, 1) := by decide +kernel
theorem dX6_carryUp_85 : decode cX6_carryUp 85 = .ok (.aload_n 3, 1) := by decide +kernel
theorem dX6_carryUp_86 : decode cX6_carryUp 86 = .ok (.aload 4, 2) := by decide +kernel
theorem dX6_carryUp_88 : decode cX6_carryUp 88 = .ok (.invokevirtual 105, 3) := by decide +kernel
theorem dX6_carryUp_91 : decode cX6_carryUp 91 = .ok (.imul, 1) := by decide +kernel
theorem dX6_carryUp_92 : decode cX6_carryUp 92 = .ok (.iadd, 1) := by decide +kernel
theorem dX6_carryUp_93 : decode cX6_carryUp 93 = .ok (.istore 5, 2) := by decide +kernel
theorem dX6_carryUp_95 : decode cX6_carryUp 95 = .ok (.iload 5, 2) := by decide +kernel
theorem dX6_carryUp_97 : decode cX6_carryUp 97 = .ok (.bipush 30, 2) := by decide +kernel
theorem dX6_carryUp_99 : decode cX6_carryUp 99 = .ok (.if_icmp .le 15, 3) := by decide +kernel
theorem dX6_carryUp_102 : decode cX6_carryUp 102 = .ok (.aload_n 0, 1) := by decide +kernel
theorem dX6_carryUp_103 : decode cX6_carryUp 103 = .ok (.getfield 21, 3) := by decide +kernel
theorem dX6_carryUp_106 : decode cX6_carryUp 106 = .ok (.bipush 13, 2) := by decide +kernel
theorem dX6_carryUp_108 : decode cX6_carryUp 108 = .ok (.iload 5, 2) := by decide +kernel
theorem dX6_carryUp_110 : decode cX6_carryUp 110 = .ok (.invokevirtual 29, 3) := by decide +kernel
theorem dX6_carryUp_113 : decode cX6_carryUp 113 = .ok (.ireturn, 1) := by decide +kernel
theorem dX6_carryUp_114 : decode cX6_carryUp 114 = .ok (.iconst 0, 1) := by decide +kernel
theorem dX6_carryUp_115 : decode cX6_carryUp 115 = .ok (.istore 6, 2) := by decide +kernel
theorem dX6_carryUp_117 : decode cX6_carryUp 117 = .ok (.iload 6, 2) := by decide +kernel
theorem dX6_carryUp_119 : decode cX6_carryUp 119 = .ok (.iload_n 2, 1) := by decide +kernel
theorem dX6_carryUp_120 : decode cX6_carryUp 120 = .ok (.if_icmp .ge 15, 3) := by decide +kernel
theorem dX6_carryUp_123 : decode cX6_carryUp 123 = .ok (.aload_n 3, 1) := by decide +kernel
theorem dX6_carryUp_124 : decode cX6_carryUp 124 = .ok (.aload 4, 2) := by decide +kernel
theorem dX6_carryUp_126 : decode cX6_carryUp 126 = .ok (.invokevirtual 109, 3) := by decide +kernel
theorem dX6_carryUp_129 : decode cX6_carryUp 129 = .ok (.iinc 6 1, 3) := by decide +kernel
theorem dX6_carryUp_132 : decode cX6_carryUp 132 = .ok (.goto (-15), 3) := by decide +kernel
theorem dX6_carryUp_135 : decode cX6_carryUp 135 = .ok (.aload_n 0, 1) := by decide +kernel
theorem dX6_carryUp_136 : decode cX6_carryUp 136 = .ok (.getfield 12, 3) := by decide +kernel
theorem dX6_carryUp_139 : decode cX6_carryUp 139 = .ok (.dup, 1) := by decide +kernel
theorem dX6_carryUp_140 : decode cX6_carryUp 140 = .ok (.getfield 74, 3) := by decide +kernel
theorem dX6_carryUp_143 : decode cX6_carryUp 143 = .ok (.iload_n 2, 1) := by decide +kernel
theorem dX6_carryUp_144 : decode cX6_carryUp 144 = .ok (.isub, 1) := by decide +kernel
theorem dX6_carryUp_145 : decode cX6_carryUp 145 = .ok (.putfield 74, 3) := by decide +kernel
theorem dX6_carryUp_148 : decode cX6_carryUp 148 = .ok (.aload_n 3, 1) := by decide +kernel
theorem dX6_carryUp_149 : decode cX6_carryUp 149 = .ok (.getfield 102, 3) := by decide +kernel
theorem dX6_carryUp_152 : decode cX6_carryUp 152 = .ok (.ireturn, 1) := by decide +kernel
theorem dX6_isRefusedByHouse_0 : decode cX6_isRefusedByHouse 0 = .ok (.iconst 0, 1) := by decide +kernel
theorem dX6_isRefusedByHouse_1 : decode cX6_isRefusedByHouse 1 = .ok (.istore_n 3, 1) := by decide +kernel
theorem dX6_isRefusedByHouse_2 : decode cX6_isRefusedByHouse 2 = .ok (.iload_n 2, 1) := by decide +kernel
theorem dX6_isRefusedByHouse_3 : decode cX6_isRefusedByHouse 3 = .ok (.aload_n 0, 1) := by decide +kernel
theorem dX6_isRefusedByHouse_4 : decode cX6_isRefusedByHouse 4 = .ok (.getfield 12, 3) := by decide +kernel
theorem dX6_isRefusedByHouse_7 : decode cX6_isRefusedByHouse 7 = .ok (.getfield 74, 3) := by decide +kernel
theorem dX6_isRefusedByHouse_10 : decode cX6_isRefusedByHouse 10 = .ok (.if_icmp .le 23, 3) := by decide +kernel
theorem dX6_isRefusedByHouse_13 : decode cX6_isRefusedByHouse 13 = .ok (.aload_n 0, 1) := by decide +kernel
theorem dX6_isRefusedByHouse_14 : decode cX6_isRefusedByHouse 14 = .ok (.getfield 21, 3) := by decide +kernel
theorem dX6_isRefusedByHouse_17 : decode cX6_isRefusedByHouse 17 = .ok (.bipush 8, 2) := by decide +kernel
theorem dX6_isRefusedByHouse_19 : decode cX6_isRefusedByHouse 19 = .ok (.aload_n 0, 1) := by decide +kernel
theorem dX6_isRefusedByHouse_20 : decode cX6_isRefusedByHouse 20 = .ok (.getfield 12, 3) := by decide +kernel
theorem dX6_isRefusedByHouse_23 : decode cX6_isRefusedByHouse 23 = .ok (.getfield 74, 3) := by decide +kernel
theorem dX6_isRefusedByHouse_26 : decode cX6_isRefusedByHouse 26 = .ok (.invokevirtual 29, 3) := by decide +kernel
theorem dX6_isRefusedByHouse_29 : decode cX6_isRefusedByHouse 29 = .ok (.istore_n 3, 1) := by decide +kernel
theorem dX6_isRefusedByHouse_30 : decode cX6_isRefusedByHouse 30 = .ok (.goto 102, 3) := by decide +kernel
theorem dX6_isRefusedByHouse_33 : decode cX6_isRefusedByHouse 33 = .ok (.iload_n 2, 1) := by decide +kernel
theorem dX6_isRefusedByHouse_34 : decode cX6_isRefusedByHouse 34 = .ok (.aload_n 1, 1) := by decide +kernel
theorem dX6_isRefusedByHouse_35 : decode cX6_isRefusedByHouse 35 = .ok (.getfield 113, 3) := by decide +kernel
theorem dX6_isRefusedByHouse_38 : decode cX6_isRefusedByHouse 38 = .ok (.if_icmp .le 20, 3) := by decide +kernel
theorem dX6_isRefusedByHouse_41 : decode cX6_isRefusedByHouse 41 = .ok (.aload_n 0, 1) := by decide +kernel
theorem dX6_isRefusedByHouse_42 : decode cX6_isRefusedByHouse 42 = .ok (.getfield 21, 3) := by decide +kernel
theorem dX6_isRefusedByHouse_45 : decode cX6_isRefusedByHouse 45 = .ok (.bipush 9, 2) := by decide +kernel
theorem dX6_isRefusedByHouse_47 : decode cX6_isRefusedByHouse 47 = .ok (.aload_n 1, 1) := by decide +kernel
theorem dX6_isRefusedByHouse_48 : decode cX6_isRefusedByHouse 48 = .ok (.getfield 113, 3) := by decide +kernel
theorem dX6_isRefusedByHouse_51 : decode cX6_isRefusedByHouse 51 = .ok (.invokevirtual 29, 3) := by decide +kernel
theorem dX6_isRefusedByHouse_54 : decode cX6_isRefusedByHouse 54 = .ok (.istore_n 3, 1) := by decide +kernel
theorem dX6_isRefusedByHouse_55 : decode cX6_isRefusedByHouse 55 = .ok (.goto 77, 3) := by decide +kernel
theorem dX6_isRefusedByHouse_58 : decode cX6_isRefusedByHouse 58 = .ok (.aload_n 1, 1) := by decide +kernel
theorem dX6_isRefusedByHouse_59 : decode cX6_isRefusedByHouse 59 = .ok (.getfield 116, 3) := by decide +kernel
theorem dX6_isRefusedByHouse_62 : decode cX6_isRefusedByHouse 62 = .ok (.bipush 12, 2) := by decide +kernel
theorem dX6_isRefusedByHouse_64 : decode cX6_isRefusedByHouse 64 = .ok (.if_icmp .le 20, 3) := by decide +kernel
theorem dX6_isRefusedByHouse_67 : decode cX6_isRefusedByHouse 67 = .ok (.aload_n 0, 1) := by decide +kernel
theorem dX6_isRefusedByHouse_68 : decode cX6_isRefusedByHouse 68 = .ok (.getfield 21, 3) := by decide +kernel
theorem dX6_isRefusedByHouse_71 : decode cX6_isRefusedByHouse 71 = .ok (.bipush 10, 2) := by decide +kernel
theorem dX6_isRefusedByHouse_73 : decode cX6_isRefusedByHouse 73 = .ok (.aload_n 1, 1) := by decide +kernel
theorem dX6_isRefusedByHouse_74 : decode cX6_isRefusedByHouse 74 = .ok (.getfield 116, 3) := by decide +kernel
theorem dX6_isRefusedByHouse_77 : decode cX6_isRefusedByHouse 77 = .ok (.invokevirtual 29, 3) := by decide +kernel
theorem dX6_isRefusedByHouse_80 : decode cX6_isRefusedByHouse 80 = .ok (.istore_n 3, 1) := by decide +kernel
theorem dX6_isRefusedByHouse_81 : decode cX6_isRefusedByHouse 81 = .ok (.goto 51, 3) := by decide +kernel
theorem dX6_isRefusedByHouse_84 : decode cX6_isRefusedByHouse 84 = .ok (.aload_n 1, 1) := by decide +kernel
theorem dX6_isRefusedByHouse_85 : decode cX6_isRefusedByHouse 85 = .ok (.getfield 119, 3) := by decide +kernel
theorem dX6_isRefusedByHouse_88 : decode cX6_isRefusedByHouse 88 = .ok (.bipush 8, 2) := by decide +kernel
theorem dX6_isRefusedByHouse_90 : decode cX6_isRefusedByHouse 90 = .ok (.if_icmp .le 20, 3) := by decide +kernel
theorem dX6_isRefusedByHouse_93 : decode cX6_isRefusedByHouse 93 = .ok (.aload_n 0, 1) := by decide +kernel
theorem dX6_isRefusedByHouse_94 : decode cX6_isRefusedByHouse 94 = .ok (.getfield 21, 3) := by decide +kernel
theorem dX6_isRefusedByHouse_97 : decode cX6_isRefusedByHouse 97 = .ok (.bipush 11, 2) := by decide +kernel
theorem dX6_isRefusedByHouse_99 : decode cX6_isRefusedByHouse 99 = .ok (.aload_n 1, 1) := by decide +kernel
theorem dX6_isRefusedByHouse_100 : decode cX6_isRefusedByHouse 100 = .ok (.getfield 119, 3) := by decide +kernel
theorem dX6_isRefusedByHouse_103 : decode cX6_isRefusedByHouse 103 = .ok (.invokevirtual 29, 3) := by decide +kernel
theorem dX6_isRefusedByHouse_106 : decode cX6_isRefusedByHouse 106 = .ok (.istore_n 3, 1) := by decide +kernel
theorem dX6_isRefusedByHouse_107 : decode cX6_isRefusedByHouse 107 = .ok (.goto 25, 3) := by decide +kernel
theorem dX6_isRefusedByHouse_110 : decode cX6_isRefusedByHouse 110 = .ok (.iload_n 2, 1) := by decide +kernel
theorem dX6_isRefusedByHouse_111 : decode cX6_isRefusedByHouse 111 = .ok (.aload_n 1, 1) := by decide +kernel
theorem dX6_isRefusedByHouse_112 : decode cX6_isRefusedByHouse 112 = .ok (.invokevirtual 122, 3) := by decide +kernel
theorem dX6_isRefusedByHouse_115 : decode cX6_isRefusedByHouse 115 = .ok (.if_icmp .le 17, 3) := by decide +kernel
theorem dX6_isRefusedByHouse_118 : decode cX6_isRefusedByHouse 118 = .ok (.aload_n 0, 1) := by decide +kernel
theorem dX6_isRefusedByHouse_119 : decode cX6_isRefusedByHouse 119 = .ok (.getfield 21, 3) := by decide +kernel
theorem dX6_isRefusedByHouse_122 : decode cX6_isRefusedByHouse 122 = .ok (.bipush 12, 2) := by decide +kernel
theorem dX6_isRefusedByHouse_124 : decode cX6_isRefusedByHouse 124 = .ok (.aload_n 1, 1) := by decide +kernel
theorem dX6_isRefusedByHouse_125 : decode cX6_isRefusedByHouse 125 = .ok (.invokevirtual 122, 3) := by decide +kernel
theorem dX6_isRefusedByHouse_128 : decode cX6_isRefusedByHouse 128 = .ok (.invokevirtual 29, 3) := by decide +kernel
theorem dX6_isRefusedByHouse_131 : decode cX6_isRefusedByHouse 131 = .ok (.istore_n 3, 1) := by decide +kernel
theorem dX6_isRefusedByHouse_132 : decode cX6_isRefusedByHouse 132 = .ok (.iload_n 3, 1) := by decide +kernel
theorem dX6_isRefusedByHouse_133 : decode cX6_isRefusedByHouse 133 = .ok (.iconst (-1), 1) := by decide +kernel
theorem dX6_isRefusedByHouse_134 : decode cX6_isRefusedByHouse 134 = .ok (.if_icmp .ne 7, 3) := by decide +kernel
theorem dX6_isRefusedByHouse_137 : decode cX6_isRefusedByHouse 137 = .ok (.iconst 1, 1) := by decide +kernel
theorem dX6_isRefusedByHouse_138 : decode cX6_isRefusedByHouse 138 = .ok (.goto 4, 3) := by decide +kernel
theorem dX6_isRefusedByHouse_141 : decode cX6_isRefusedByHouse 141 = .ok (.iconst 0, 1) := by decide +kernel
theorem dX6_isRefusedByHouse_142 : decode cX6_isRefusedByHouse 142 = .ok (.ireturn, 1) := by decide +kernel
theorem dX6_giveBone_0 : decode cX6_giveBone 0 = .ok (.aload_n 0, 1) := by decide +kernel
theorem dX6_giveBone_1 : decode cX6_giveBone 1 = .ok (.getfield 12, 3) := by decide +kernel
theorem dX6_giveBone_4 : decode cX6_giveBone 4 = .ok (.invokevirtual 94, 3) := by decide +kernel
theorem dX6_giveBone_7 : decode cX6_giveBone 7 = .ok (.astore_n 1, 1) := by decide +kernel
theorem dX6_giveBone_8 : decode cX6_giveBone 8 = .ok (.aload_n 1, 1) := by decide +kernel
theorem dX6_giveBone_9 : decode cX6_giveBone 9 = .ok (.ifnonnull 14, 3) := by decide +kernel
theorem dX6_giveBone_12 : decode cX6_giveBone 12 = .ok (.aload_n 0, 1) := by decide +kernel
theorem dX6_giveBone_13 : decode cX6_giveBone 13 = .ok (.getfield 21, 3) := by decide +kernel
theorem dX6_giveBone_16 : decode cX6_giveBone 16 = .ok (.bipush 7, 2) := by decide +kernel
theorem dX6_giveBone_18 : decode cX6_giveBone 18 = .ok (.iconst 0, 1) := by decide +kernel
theorem dX6_giveBone_19 : decode cX6_giveBone 19 = .ok (.invokevirtual 29, 3) := by decide +kernel
theorem dX6_giveBone_22 : decode cX6_giveBone 22 = .ok (.ireturn, 1) := by decide +kernel
theorem dX6_giveBone_23 : decode cX6_giveBone 23 = .ok (.aload_n 1, 1) := by decide +kernel
theorem dX6_giveBone_24 : decode cX6_giveBone 24 = .ok (.getfield 46, 3) := by decide +kernel
theorem dX6_giveBone_27 : decode cX6_giveBone 27 = .ok (.ifCond .eq 10, 3) := by decide +kernel
theorem dX6_giveBone_30 : decode cX6_giveBone 30 = .ok (.aload_n 1, 1) := by decide +kernel
theorem dX6_giveBone_31 : decode cX6_giveBone 31 = .ok (.getfield 131, 3) := by decide +kernel
theorem dX6_giveBone_34 : decode cX6_giveBone 34 = .ok (.ifCond .eq 22, 3) := by decide +kernel
theorem dX6_giveBone_37 : decode cX6_giveBone 37 = .ok (.aload_n 0, 1) := by decide +kernel
theorem dX6_giveBone_38 : decode cX6_giveBone 38 = .ok (.getfield 21, 3) := by decide +kernel
theorem dX6_giveBone_41 : decode cX6_giveBone 41 = .ok (.bipush 14, 2) := by decide +kernel
theorem dX6_giveBone_43 : decode cX6_giveBone 43 = .ok (.aload_n 0, 1) := by decide +kernel
theorem dX6_giveBone_44 : decode cX6_giveBone 44 = .ok (.getfield 12, 3) := by decide +kernel
theorem dX6_giveBone_47 : decode cX6_giveBone 47 = .ok (.getfield 68, 3) := by decide +kernel
theorem dX6_giveBone_50 : decode cX6_giveBone 50 = .ok (.iconst 1, 1) := by decide +kernel
theorem dX6_giveBone_51 : decode cX6_giveBone 51 = .ok (.isub, 1) := by decide +kernel
theorem dX6_giveBone_52 : decode cX6_giveBone 52 = .ok (.invokevirtual 29, 3) := by decide +kernel
theorem dX6_giveBone_55 : decode cX6_giveBone 55 = .ok (.ireturn, 1) := by decide +kernel
theorem dX6_giveBone_56 : decode cX6_giveBone 56 = .ok (.aload_n 0, 1) := by decide +kernel
theorem dX6_giveBone_57 : decode cX6_giveBone 57 = .ok (.getfield 12, 3) := by decide +kernel
theorem dX6_giveBone_60 : decode cX6_giveBone 60 = .ok (.getfield 135, 3) := by decide +kernel
theorem dX6_giveBone_63 : decode cX6_giveBone 63 = .ok (.iconst 1, 1) := by decide +kernel
theorem dX6_giveBone_64 : decode cX6_giveBone 64 = .ok (.if_icmp .ge 14, 3) := by decide +kernel
theorem dX6_giveBone_67 : decode cX6_giveBone 67 = .ok (.aload_n 0, 1) := by decide +kernel
theorem dX6_giveBone_68 : decode cX6_giveBone 68 = .ok (.getfield 21, 3) := by decide +kernel
theorem dX6_giveBone_71 : decode cX6_giveBone 71 = .ok (.bipush 15, 2) := by decide +kernel
theorem dX6_giveBone_73 : decode cX6_giveBone 73 = .ok (.iconst 0, 1) := by decide +kernel
theorem dX6_giveBone_74 : decode cX6_giveBone 74 = .ok (.invokevirtual 29, 3) := by decide +kernel
theorem dX6_giveBone_77 : decode cX6_giveBone 77 = .ok (.ireturn, 1) := by decide +kernel
theorem dX6_giveBone_78 : decode cX6_giveBone 78 = .ok (.aload_n 1, 1) := by decide +kernel
theorem dX6_giveBone_79 : decode cX6_giveBone 79 = .ok (.iconst 1, 1) := by decide +kernel
theorem dX6_giveBone_80 : decode cX6_giveBone 80 = .ok (.putfield 131, 3) := by decide +kernel
theorem dX6_giveBone_83 : decode cX6_giveBone 83 = .ok (.aload_n 0, 1) := by decide +kernel
theorem dX6_giveBone_84 : decode cX6_giveBone 84 = .ok (.getfield 12, 3) := by decide +kernel
theorem dX6_giveBone_87 : decode cX6_giveBone 87 = .ok (.dup, 1) := by decide +kernel
theorem dX6_giveBone_88 : decode cX6_giveBone 88 = .ok (.getfield 135, 3) := by decide +kernel
theorem dX6_giveBone_91 : decode cX6_giveBone 91 = .ok (.iconst 1, 1) := by decide +kernel
theorem dX6_giveBone_92 : decode cX6_giveBone 92 = .ok (.isub, 1) := by decide +kernel
theorem dX6_giveBone_93 : decode cX6_giveBone 93 = .ok (.putfield 135, 3) := by decide +kernel
theorem dX6_giveBone_96 : decode cX6_giveBone 96 = .ok (.aload_n 0, 1) := by decide +kernel
theorem dX6_giveBone_97 : decode cX6_giveBone 97 = .ok (.getfield 12, 3) := by decide +kernel
theorem dX6_giveBone_100 : decode cX6_giveBone 100 = .ok (.getfield 135, 3) := by decide +kernel
theorem dX6_giveBone_103 : decode cX6_giveBone 103 = .ok (.ireturn, 1) := by decide +kernel
theorem dX6_buyBones_0 : decode cX6_buyBones 0 = .ok (.iload_n 1, 1) := by decide +kernel
theorem dX6_buyBones_1 : decode cX6_buyBones 1 = .ok (.iconst 1, 1) := by decide +kernel
theorem dX6_buyBones_2 : decode cX6_buyBones 2 = .ok (.bipush 9, 2) := by decide +kernel
theorem dX6_buyBones_4 : decode cX6_buyBones 4 = .ok (.invokestatic 25, 3) := by decide +kernel
theorem dX6_buyBones_7 : decode cX6_buyBones 7 = .ok (.ifCond .eq 13, 3) := by decide +kernel
theorem dX6_buyBones_10 : decode cX6_buyBones 10 = .ok (.aload_n 0, 1) := by decide +kernel
theorem dX6_buyBones_11 : decode cX6_buyBones 11 = .ok (.getfield 21, 3) := by decide +kernel
theorem dX6_buyBones_14 : decode cX6_buyBones 14 = .ok (.iconst 1, 1) := by decide +kernel
theorem dX6_buyBones_15 : decode cX6_buyBones 15 = .ok (.iconst 0, 1) := by decide +kernel
theorem dX6_buyBones_16 : decode cX6_buyBones 16 = .ok (.invokevirtual 29, 3) := by decide +kernel
theorem dX6_buyBones_19 : decode cX6_buyBones 19 = .ok (.ireturn, 1) := by decide +kernel
theorem dX6_buyBones_20 : decode cX6_buyBones 20 = .ok (.iload_n 1, 1) := by decide +kernel
theorem dX6_buyBones_21 : decode cX6_buyBones 21 = .ok (.aload_n 0, 1) := by decide +kernel
theorem dX6_buyBones_22 : decode cX6_buyBones 22 = .ok (.getfield 12, 3) := by decide +kernel
theorem dX6_buyBones_25 : decode cX6_buyBones 25 = .ok (.getfield 138, 3) := by decide +kernel
theorem dX6_buyBones_28 : decode cX6_buyBones 28 = .ok (.if_icmp .le 22, 3) := by decide +kernel
theorem dX6_buyBones_31 : decode cX6_buyBones 31 = .ok (.aload_n 0, 1) := by decide +kernel
theorem dX6_buyBones_32 : decode cX6_buyBones 32 = .ok (.getfield 21, 3) := by decide +kernel
theorem dX6_buyBones_35 : decode cX6_buyBones 35 = .ok (.bipush 16, 2) := by decide +kernel
theorem dX6_buyBones_37 : decode cX6_buyBones 37 = .ok (.iload_n 1, 1) := by decide +kernel
theorem dX6_buyBones_38 : decode cX6_buyBones 38 = .ok (.aload_n 0, 1) := by decide +kernel
theorem dX6_buyBones_39 : decode cX6_buyBones 39 = .ok (.getfield 12, 3) := by decide +kernel
theorem dX6_buyBones_42 : decode cX6_buyBones 42 = .ok (.getfield 138, 3) := by decide +kernel
theorem dX6_buyBones_45 : decode cX6_buyBones 45 = .ok (.isub, 1) := by decide +kernel
theorem dX6_buyBones_46 : decode cX6_buyBones 46 = .ok (.invokevirtual 29, 3) := by decide +kernel
theorem dX6_buyBones_49 : decode cX6_buyBones 49 = .ok (.ireturn, 1) := by decide +kernel
theorem dX6_buyBones_50 : decode cX6_buyBones 50 = .ok (.aload_n 0, 1) := by decide +kernel
theorem dX6_buyBones_51 : decode cX6_buyBones 51 = .ok (.getfield 12, 3) := by decide +kernel
theorem dX6_buyBones_54 : decode cX6_buyBones 54 = .ok (.dup, 1) := by decide +kernel
theorem dX6_buyBones_55 : decode cX6_buyBones 55 = .ok (.getfield 138, 3) := by decide +kernel
theorem dX6_buyBones_58 : decode cX6_buyBones 58 = .ok (.iload_n 1, 1) := by decide +kernel
theorem dX6_buyBones_59 : decode cX6_buyBones 59 = .ok (.isub, 1) := by decide +kernel
theorem dX6_buyBones_60 : decode cX6_buyBones 60 = .ok (.putfield 138, 3) := by decide +kernel
theorem dX6_buyBones_63 : decode cX6_buyBones 63 = .ok (.aload_n 0, 1) := by decide +kernel
theorem dX6_buyBones_64 : decode cX6_buyBones 64 = .ok (.getfield 12, 3) := by decide +kernel
theorem dX6_buyBones_67 : decode cX6_buyBones 67 = .ok (.dup, 1) := by decide +kernel
theorem dX6_buyBones_68 : decode cX6_buyBones 68 = .ok (.getfield 135, 3) := by decide +kernel
theorem dX6_buyBones_71 : decode cX6_buyBones 71 = .ok (.iload_n 1, 1) := by decide +kernel
theorem dX6_buyBones_72 : decode cX6_buyBones 72 = .ok (.iadd, 1) := by decide +kernel
theorem dX6_buyBones_73 : decode cX6_buyBones 73 = .ok (.putfield 135, 3) := by decide +kernel
theorem dX6_buyBones_76 : decode cX6_buyBones 76 = .ok (.aload_n 0, 1) := by decide +kernel
theorem dX6_buyBones_77 : decode cX6_buyBones 77 = .ok (.getfield 12, 3) := by decide +kernel
theorem dX6_buyBones_80 : decode cX6_buyBones 80 = .ok (.getfield 135, 3) := by decide +kernel
theorem dX6_buyBones_83 : decode cX6_buyBones 83 = .ok (.ireturn, 1) := by decide +kernel
theorem dX6_mopStairs_0 : decode cX6_mopStairs 0 = .ok (.aload_n 0, 1) := by decide +kernel
theorem dX6_mopStairs_1 : decode cX6_mopStairs 1 = .ok (.getfield 12, 3) := by decide +kernel
theorem dX6_mopStairs_4 : decode cX6_mopStairs 4 = .ok (.iload_n 1, 1) := by decide +kernel
theorem dX6_mopStairs_5 : decode cX6_mopStairs 5 = .ok (.invokevirtual 90, 3) := by decide +kernel
theorem dX6_mopStairs_8 : decode cX6_mopStairs 8 = .ok (.astore_n 2, 1) := by decide +kernel
theorem dX6_mopStairs_9 : decode cX6_mopStairs 9 = .ok (.aload_n 2, 1) := by decide +kernel
theorem dX6_mopStairs_10 : decode cX6_mopStairs 10 = .ok (.ifnonnull 13, 3) := by decide +kernel
theorem dX6_mopStairs_13 : decode cX6_mopStairs 13 = .ok (.aload_n 0, 1) := by decide +kernel
theorem dX6_mopStairs_14 : decode cX6_mopStairs 14 = .ok (.getfield 21, 3) := by decide +kernel
theorem dX6_mopStairs_17 : decode cX6_mopStairs 17 = .ok (.iconst 3, 1) := by decide +kernel
theorem dX6_mopStairs_18 : decode cX6_mopStairs 18 = .ok (.iload_n 1, 1) := by decide +kernel
theorem dX6_mopStairs_19 : decode cX6_mopStairs 19 = .ok (.invokevirtual 29, 3) := by decide +kernel
theorem dX6_mopStairs_22 : decode cX6_mopStairs 22 = .ok (.ireturn, 1) := by decide +kernel
theorem dX6_mopStairs_23 : decode cX6_mopStairs 23 = .ok (.aload_n 0, 1) := by decide +kernel
theorem dX6_mopStairs_24 : decode cX6_mopStairs 24 = .ok (.getfield 12, 3) := by decide +kernel
theorem dX6_mopStairs_27 : decode cX6_mopStairs 27 = .ok (.invokevirtual 94, 3) := by decide +kernel
theorem dX6_mopStairs_30 : decode cX6_mopStairs 30 = .ok (.astore_n 3, 1) := by decide +kernel
theorem dX6_mopStairs_31 : decode cX6_mopStairs 31 = .ok (.aload_n 3, 1) := by decide +kernel
theorem dX6_mopStairs_32 : decode cX6_mopStairs 32 = .ok (.ifnonnull 14, 3) := by decide +kernel
theorem dX6_mopStairs_35 : decode cX6_mopStairs 35 = .ok (.aload_n 0, 1) := by decide +kernel
theorem dX6_mopStairs_36 : decode cX6_mopStairs 36 = .ok (.getfield 21, 3) := by decide +kernel
theorem dX6_mopStairs_39 : decode cX6_mopStairs 39 = .ok (.bipush 7, 2) := by decide +kernel
theorem dX6_mopStairs_41 : decode cX6_mopStairs 41 = .ok (.iconst 0, 1) := by decide +kernel
theorem dX6_mopStairs_42 : decode cX6_mopStairs 42 = .ok (.invokevirtual 29, 3) := by decide +kernel
theorem dX6_mopStairs_45 : decode cX6_mopStairs 45 = .ok (.ireturn, 1) := by decide +kernel
theorem dX6_mopStairs_46 : decode cX6_mopStairs 46 = .ok (.aload_n 3, 1) := by decide +kernel
theorem dX6_mopStairs_47 : decode cX6_mopStairs 47 = .ok (.getfield 119, 3) := by decide +kernel
theorem dX6_mopStairs_50 : decode cX6_mopStairs 50 = .ok (.istore 4, 2) := by decide +kernel
theorem dX6_mopStairs_52 : decode cX6_mopStairs 52 = .ok (.iload 4, 2) := by decide +kernel
theorem dX6_mopStairs_54 : decode cX6_mopStairs 54 = .ok (.ifCond .ne 22, 3) := by decide +kernel
theorem dX6_mopStairs_57 : decode cX6_mopStairs 57 = .ok (.aload_n 0, 1) := by decide +kernel
theorem dX6_mopStairs_58 : decode cX6_mopStairs 58 = .ok (.getfield 21, 3) := by decide +kernel
theorem dX6_mopStairs_61 : decode cX6_mopStairs 61 = .ok (.bipush 18, 2) := by decide +kernel
theorem dX6_mopStairs_63 : decode cX6_mopStairs 63 = .ok (.aload_n 0, 1) := by decide +kernel
theorem dX6_mopStairs_64 : decode cX6_mopStairs 64 = .ok (.getfield 12, 3) := by decide +kernel
theorem dX6_mopStairs_67 : decode cX6_mopStairs 67 = .ok (.getfield 68, 3) := by decide +kernel
theorem dX6_mopStairs_70 : decode cX6_mopStairs 70 = .ok (.iconst 1, 1) := by decide +kernel
theorem dX6_mopStairs_71 : decode cX6_mopStairs 71 = .ok (.isub, 1) := by decide +kernel
theorem dX6_mopStairs_72 : decode cX6_mopStairs 72 = .ok (.invokevirtual 29, 3) := by decide +kernel
theorem dX6_mopStairs_75 : decode cX6_mopStairs 75 = .ok (.ireturn, 1) := by decide +kernel
theorem dX6_mopStairs_76 : decode cX6_mopStairs 76 = .ok (.aload_n 2, 1) := by decide +kernel
theorem dX6_mopStairs_77 : decode cX6_mopStairs 77 = .ok (.getfield 102, 3) := by decide +kernel
theorem dX6_mopStairs_80 : decode cX6_mopStairs 80 = .ok (.iload 4, 2) := by decide +kernel
theorem dX6_mopStairs_82 : decode cX6_mopStairs 82 = .ok (.iconst 1, 1) := by decide +kernel
theorem dX6_mopStairs_83 : decode cX6_mopStairs 83 = .ok (.iadd, 1) := by decide +kernel
theorem dX6_mopStairs_84 : decode cX6_mopStairs 84 = .ok (.iconst 2, 1) := by decide +kernel
theorem dX6_mopStairs_85 : decode cX6_mopStairs 85 = .ok (.idiv, 1) := by decide +kernel
theorem dX6_mopStairs_86 : decode cX6_mopStairs 86 = .ok (.iadd, 1) := by decide +kernel
theorem dX6_mopStairs_87 : decode cX6_mopStairs 87 = .ok (.istore 5, 2) := by decide +kernel
theorem dX6_mopStairs_89 : decode cX6_mopStairs 89 = .ok (.iload 5, 2) := by decide +kernel
theorem dX6_mopStairs_91 : decode cX6_mopStairs 91 = .ok (.bipush 30, 2) := by decide +kernel
theorem dX6_mopStairs_93 : decode cX6_mopStairs 93 = .ok (.if_icmp .le 15, 3) := by decide +kernel
theorem dX6_mopStairs_96 : decode cX6_mopStairs 96 = .ok (.aload_n 0, 1) := by decide +kernel
theorem dX6_mopStairs_97 : decode cX6_mopStairs 97 = .ok (.getfield 21, 3) := by decide +kernel
theorem dX6_mopStairs_100 : decode cX6_mopStairs 100 = .ok (.bipush 13, 2) := by decide +kernel
theorem dX6_mopStairs_102 : decode cX6_mopStairs 102 = .ok (.iload 5, 2) := by decide +kernel
theorem dX6_mopStairs_104 : decode cX6_mopStairs 104 = .ok (.invokevirtual 29, 3) := by decide +kernel
theorem dX6_mopStairs_107 : decode cX6_mopStairs 107 = .ok (.ireturn, 1) := by decide +kernel
theorem dX6_mopStairs_108 : decode cX6_mopStairs 108 = .ok (.aload_n 2, 1) := by decide +kernel
theorem dX6_mopStairs_109 : decode cX6_mopStairs 109 = .ok (.iload 5, 2) := by decide +kernel
theorem dX6_mopStairs_111 : decode cX6_mopStairs 111 = .ok (.putfield 102, 3) := by decide +kernel
theorem dX6_mopStairs_114 : decode cX6_mopStairs 114 = .ok (.aload_n 3, 1) := by decide +kernel
theorem dX6_mopStairs_115 : decode cX6_mopStairs 115 = .ok (.iconst 0, 1) := by decide +kernel
theorem dX6_mopStairs_116 : decode cX6_mopStairs 116 = .ok (.putfield 119, 3) := by decide +kernel
theorem dX6_mopStairs_119 : decode cX6_mopStairs 119 = .ok (.iload 4, 2) := by decide +kernel
theorem dX6_mopStairs_121 : decode cX6_mopStairs 121 = .ok (.ireturn, 1) := by decide +kernel
theorem dX6_takePay_0 : decode cX6_takePay 0 = .ok (.aload_n 0, 1) := by decide +kernel
theorem dX6_takePay_1 : decode cX6_takePay 1 = .ok (.getfield 12, 3) := by decide +kernel
theorem dX6_takePay_4 : decode cX6_takePay 4 = .ok (.iload_n 1, 1) := by decide +kernel
theorem dX6_takePay_5 : decode cX6_takePay 5 = .ok (.invokevirtual 49, 3) := by decide +kernel
theorem dX6_takePay_8 : decode cX6_takePay 8 = .ok (.astore_n 3, 1) := by decide +kernel
theorem dX6_takePay_9 : decode cX6_takePay 9 = .ok (.aload_n 3, 1) := by decide +kernel
theorem dX6_takePay_10 : decode cX6_takePay 10 = .ok (.ifnonnull 13, 3) := by decide +kernel
theorem dX6_takePay_13 : decode cX6_takePay 13 = .ok (.aload_n 0, 1) := by decide +kernel
theorem dX6_takePay_14 : decode cX6_takePay 14 = .ok (.getfield 21, 3) := by decide +kernel
theorem dX6_takePay_17 : decode cX6_takePay 17 = .ok (.iconst 3, 1) := by decide +kernel
theorem dX6_takePay_18 : decode cX6_takePay 18 = .ok (.iload_n 1, 1) := by decide +kernel
theorem dX6_takePay_19 : decode cX6_takePay 19 = .ok (.invokevirtual 29, 3) := by decide +kernel
theorem dX6_takePay_22 : decode cX6_takePay 22 = .ok (.ireturn, 1) := by decide +kernel
theorem dX6_takePay_23 : decode cX6_takePay 23 = .ok (.iload_n 2, 1) := by decide +kernel
theorem dX6_takePay_24 : decode cX6_takePay 24 = .ok (.iconst 1, 1) := by decide +kernel
theorem dX6_takePay_25 : decode cX6_takePay 25 = .ok (.bipush 99, 2) := by decide +kernel
theorem dX6_takePay_27 : decode cX6_takePay 27 = .ok (.invokestatic 25, 3) := by decide +kernel
theorem dX6_takePay_30 : decode cX6_takePay 30 = .ok (.ifCond .eq 13, 3) := by decide +kernel
theorem dX6_takePay_33 : decode cX6_takePay 33 = .ok (.aload_n 0, 1) := by decide +kernel
theorem dX6_takePay_34 : decode cX6_takePay 34 = .ok (.getfield 21, 3) := by decide +kernel
theorem dX6_takePay_37 : decode cX6_takePay 37 = .ok (.iconst 1, 1) := by decide +kernel
theorem dX6_takePay_38 : decode cX6_takePay 38 = .ok (.iconst 0, 1) := by decide +kernel
theorem dX6_takePay_39 : decode cX6_takePay 39 = .ok (.invokevirtual 29, 3) := by decide +kernel
theorem dX6_takePay_42 : decode cX6_takePay 42 = .ok (.ireturn, 1) := by decide +kernel
theorem dX6_takePay_43 : decode cX6_takePay 43 = .ok (.aload_n 3, 1) := by decide +kernel
theorem dX6_takePay_44 : decode cX6_takePay 44 = .ok (.getfield 116, 3) := by decide +kernel
theorem dX6_takePay_47 : decode cX6_takePay 47 = .ok (.iload_n 2, 1) := by decide +kernel
theorem dX6_takePay_48 : decode cX6_takePay 48 = .ok (.if_icmp .ge 17, 3) := by decide +kernel
theorem dX6_takePay_51 : decode cX6_takePay 51 = .ok (.aload_n 0, 1) := by decide +kernel
theorem dX6_takePay_52 : decode cX6_takePay 52 = .ok (.getfield 21, 3) := by decide +kernel
theorem dX6_takePay_55 : decode cX6_takePay 55 = .ok (.bipush 17, 2) := by decide +kernel
theorem dX6_takePay_57 : decode cX6_takePay 57 = .ok (.aload_n 3, 1) := by decide +kernel
theorem dX6_takePay_58 : decode cX6_takePay 58 = .ok (.getfield 116, 3) := by decide +kernel
theorem dX6_takePay_61 : decode cX6_takePay 61 = .ok (.invokevirtual 29, 3) := by decide +kernel
theorem dX6_takePay_64 : decode cX6_takePay 64 = .ok (.ireturn, 1) := by decide +kernel
theorem dX6_takePay_65 : decode cX6_takePay 65 = .ok (.aload_n 3, 1) := by decide +kernel
theorem dX6_takePay_66 : decode cX6_takePay 66 = .ok (.dup, 1) := by decide +kernel
theorem dX6_takePay_67 : decode cX6_takePay 67 = .ok (.getfield 116, 3) := by decide +kernel
theorem dX6_takePay_70 : decode cX6_takePay 70 = .ok (.iload_n 2, 1) := by decide +kernel
theorem dX6_takePay_71 : decode cX6_takePay 71 = .ok (.isub, 1) := by decide +kernel
theorem dX6_takePay_72 : decode cX6_takePay 72 = .ok (.putfield 116, 3) := by decide +kernel
theorem dX6_takePay_75 : decode cX6_takePay 75 = .ok (.aload_n 0, 1) := by decide +kernel
theorem dX6_takePay_76 : decode cX6_takePay 76 = .ok (.getfield 12, 3) := by decide +kernel
theorem dX6_takePay_79 : decode cX6_takePay 79 = .ok (.dup, 1) := by decide +kernel
theorem dX6_takePay_80 : decode cX6_takePay 80 = .ok (.getfield 138, 3) := by decide +kernel
theorem dX6_takePay_83 : decode cX6_takePay 83 = .ok (.iload_n 2, 1) := by decide +kernel
theorem dX6_takePay_84 : decode cX6_takePay 84 = .ok (.iadd, 1) := by decide +kernel
theorem dX6_takePay_85 : decode cX6_takePay 85 = .ok (.putfield 138, 3) := by decide +kernel
theorem dX6_takePay_88 : decode cX6_takePay 88 = .ok (.aload_n 0, 1) := by decide +kernel
theorem dX6_takePay_89 : decode cX6_takePay 89 = .ok (.getfield 12, 3) := by decide +kernel
theorem dX6_takePay_92 : decode cX6_takePay 92 = .ok (.dup, 1) := by decide +kernel
theorem dX6_takePay_93 : decode cX6_takePay 93 = .ok (.getfield 141, 3) := by decide +kernel
theorem dX6_takePay_96 : decode cX6_takePay 96 = .ok (.iload_n 2, 1) := by decide +kernel
theorem dX6_takePay_97 : decode cX6_takePay 97 = .ok (.iadd, 1) := by decide +kernel
theorem dX6_takePay_98 : decode cX6_takePay 98 = .ok (.putfield 141, 3) := by decide +kernel
theorem dX6_takePay_101 : decode cX6_takePay 101 = .ok (.aload_n 3, 1) := by decide +kernel
theorem dX6_takePay_102 : decode cX6_takePay 102 = .ok (.getfield 116, 3) := by decide +kernel
theorem dX6_takePay_105 : decode cX6_takePay 105 = .ok (.ireturn, 1) := by decide +kernel
theorem dX6_shoeHorse_0 : decode cX6_shoeHorse 0 = .ok (.iload_n 1, 1) := by decide +kernel
theorem dX6_shoeHorse_1 : decode cX6_shoeHorse 1 = .ok (.iconst 0, 1) := by decide +kernel
theorem dX6_shoeHorse_2 : decode cX6_shoeHorse 2 = .ok (.iconst 3, 1) := by decide +kernel
theorem dX6_shoeHorse_3 : decode cX6_shoeHorse 3 = .ok (.invokestatic 25, 3) := by decide +kernel
theorem dX6_shoeHorse_6 : decode cX6_shoeHorse 6 = .ok (.ifCond .eq 13, 3) := by decide +kernel
theorem dX6_shoeHorse_9 : decode cX6_shoeHorse 9 = .ok (.aload_n 0, 1) := by decide +kernel
theorem dX6_shoeHorse_10 : decode cX6_shoeHorse 10 = .ok (.getfield 21, 3) := by decide +kernel
theorem dX6_shoeHorse_13 : decode cX6_shoeHorse 13 = .ok (.iconst 3, 1) := by decide +kernel
theorem dX6_shoeHorse_14 : decode cX6_shoeHorse 14 = .ok (.iload_n 1, 1) := by decide +kernel
theorem dX6_shoeHorse_15 : decode cX6_shoeHorse 15 = .ok (.invokevirtual 29, 3) := by decide +kernel
theorem dX6_shoeHorse_18 : decode cX6_shoeHorse 18 = .ok (.ireturn, 1) := by decide +kernel
theorem dX6_shoeHorse_19 : decode cX6_shoeHorse 19 = .ok (.aload_n 0, 1) := by decide +kernel
theorem dX6_shoeHorse_20 : decode cX6_shoeHorse 20 = .ok (.getfield 12, 3) := by decide +kernel
theorem dX6_shoeHorse_23 : decode cX6_shoeHorse 23 = .ok (.getfield 68, 3) := by decide +kernel
theorem dX6_shoeHorse_26 : decode cX6_shoeHorse 26 = .ok (.ifCond .eq 20, 3) := by decide +kernel
theorem dX6_shoeHorse_29 : decode cX6_shoeHorse 29 = .ok (.aload_n 0, 1) := by decide +kernel
theorem dX6_shoeHorse_30 : decode cX6_shoeHorse 30 = .ok (.getfield 21, 3) := by decide +kernel
theorem dX6_shoeHorse_33 : decode cX6_shoeHorse 33 = .ok (.bipush 6, 2) := by decide +kernel
theorem dX6_shoeHorse_35 : decode cX6_shoeHorse 35 = .ok (.aload_n 0, 1) := by decide +kernel
theorem dX6_shoeHorse_36 : decode cX6_shoeHorse 36 = .ok (.getfield 12, 3) := by decide +kernel
theorem dX6_shoeHorse_39 : decode cX6_shoeHorse 39 = .ok (.getfield 68, 3) := by decide +kernel
theorem dX6_shoeHorse_42 : decode cX6_shoeHorse 42 = .ok (.invokevirtual 29, 3) := by decide +kernel
theorem dX6_shoeHorse_45 : decode cX6_shoeHorse 45 = .ok (.ireturn, 1) := by decide +kernel
theorem dX6_shoeHorse_46 : decode cX6_shoeHorse 46 = .ok (.aload_n 0, 1) := by decide +kernel
theorem dX6_shoeHorse_47 : decode cX6_shoeHorse 47 = .ok (.getfield 12, 3) := by decide +kernel
theorem dX6_shoeHorse_50 : decode cX6_shoeHorse 50 = .ok (.getfield 144, 3) := by decide +kernel
theorem dX6_shoeHorse_53 : decode cX6_shoeHorse 53 = .ok (.iload_n 1, 1) := by decide +kernel
theorem dX6_shoeHorse_54 : decode cX6_shoeHorse 54 = .ok (.iaload, 1) := by decide +kernel
theorem dX6_shoeHorse_55 : decode cX6_shoeHorse 55 = .ok (.istore_n 2, 1) := by decide +kernel
theorem dX6_shoeHorse_56 : decode cX6_shoeHorse 56 = .ok (.iload_n 2, 1) := by decide +kernel
theorem dX6_shoeHorse_57 : decode cX6_shoeHorse 57 = .ok (.ifCond .ne 14, 3) := by decide +kernel
theorem dX6_shoeHorse_60 : decode cX6_shoeHorse 60 = .ok (.aload_n 0, 1) := by decide +kernel
theorem dX6_shoeHorse_61 : decode cX6_shoeHorse 61 = .ok (.getfield 21, 3) := by decide +kernel
theorem dX6_shoeHorse_64 : decode cX6_shoeHorse 64 = .ok (.bipush 19, 2) := by decide +kernel
theorem dX6_shoeHorse_66 : decode cX6_shoeHorse 66 = .ok (.iload_n 1, 1) := by decide +kernel
theorem dX6_shoeHorse_67 : decode cX6_shoeHorse 67 = .ok (.invokevirtual 29, 3) := by decide +kernel
theorem dX6_shoeHorse_70 : decode cX6_shoeHorse 70 = .ok (.ireturn, 1) := by decide +kernel
theorem dX6_shoeHorse_71 : decode cX6_shoeHorse 71 = .ok (.aload_n 0, 1) := by decide +kernel
theorem dX6_shoeHorse_72 : decode cX6_shoeHorse 72 = .ok (.getfield 12, 3) := by decide +kernel
theorem dX6_shoeHorse_75 : decode cX6_shoeHorse 75 = .ok (.getfield 138, 3) := by decide +kernel
theorem dX6_shoeHorse_78 : decode cX6_shoeHorse 78 = .ok (.iconst 4, 1) := by decide +kernel
theorem dX6_shoeHorse_79 : decode cX6_shoeHorse 79 = .ok (.if_icmp .ge 22, 3) := by decide +kernel
theorem dX6_shoeHorse_82 : decode cX6_shoeHorse 82 = .ok (.aload_n 0, 1) := by decide +kernel
theorem dX6_shoeHorse_83 : decode cX6_shoeHorse 83 = .ok (.getfield 21, 3) := by decide +kernel
theorem dX6_shoeHorse_86 : decode cX6_shoeHorse 86 = .ok (.bipush 16, 2) := by decide +kernel
theorem dX6_shoeHorse_88 : decode cX6_shoeHorse 88 = .ok (.iconst 4, 1) := by decide +kernel
theorem dX6_shoeHorse_89 : decode cX6_shoeHorse 89 = .ok (.aload_n 0, 1) := by decide +kernel
theorem dX6_shoeHorse_90 : decode cX6_shoeHorse 90 = .ok (.getfield 12, 3) := by decide +kernel
theorem dX6_shoeHorse_93 : decode cX6_shoeHorse 93 = .ok (.getfield 138, 3) := by decide +kernel
theorem dX6_shoeHorse_96 : decode cX6_shoeHorse 96 = .ok (.isub, 1) := by decide +kernel
theorem dX6_shoeHorse_97 : decode cX6_shoeHorse 97 = .ok (.invokevirtual 29, 3) := by decide +kernel
theorem dX6_shoeHorse_100 : decode cX6_shoeHorse 100 = .ok (.ireturn, 1) := by decide +kernel
theorem dX6_shoeHorse_101 : decode cX6_shoeHorse 101 = .ok (.aload_n 0, 1) := by decide +kernel
theorem dX6_shoeHorse_102 : decode cX6_shoeHorse 102 = .ok (.getfield 12, 3) := by decide +kernel
theorem dX6_shoeHorse_105 : decode cX6_shoeHorse 105 = .ok (.dup, 1) := by decide +kernel
theorem dX6_shoeHorse_106 : decode cX6_shoeHorse 106 = .ok (.getfield 138, 3) := by decide +kernel
theorem dX6_shoeHorse_109 : decode cX6_shoeHorse 109 = .ok (.iconst 4, 1) := by decide +kernel
theorem dX6_shoeHorse_110 : decode cX6_shoeHorse 110 = .ok (.isub, 1) := by decide +kernel
theorem dX6_shoeHorse_111 : decode cX6_shoeHorse 111 = .ok (.putfield 138, 3) := by decide +kernel
theorem dX6_shoeHorse_114 : decode cX6_shoeHorse 114 = .ok (.aload_n 0, 1) := by decide +kernel
theorem dX6_shoeHorse_115 : decode cX6_shoeHorse 115 = .ok (.getfield 12, 3) := by decide +kernel
theorem dX6_shoeHorse_118 : decode cX6_shoeHorse 118 = .ok (.getfield 144, 3) := by decide +kernel
theorem dX6_shoeHorse_121 : decode cX6_shoeHorse 121 = .ok (.iload_n 1, 1) := by decide +kernel
theorem dX6_shoeHorse_122 : decode cX6_shoeHorse 122 = .ok (.iconst 0, 1) := by decide +kernel
theorem dX6_shoeHorse_123 : decode cX6_shoeHorse 123 = .ok (.iastore, 1) := by decide +kernel
theorem dX6_shoeHorse_124 : decode cX6_shoeHorse 124 = .ok (.iload_n 2, 1) := by decide +kernel
theorem dX6_shoeHorse_125 : decode cX6_shoeHorse 125 = .ok (.ireturn, 1) := by decide +kernel
theorem dX6_passDays_0 : decode cX6_passDays 0 = .ok (.iload_n 1, 1) := by decide +kernel
theorem dX6_passDays_1 : decode cX6_passDays 1 = .ok (.iconst 1, 1) := by decide +kernel
theorem dX6_passDays_2 : decode cX6_passDays 2 = .ok (.bipush 30, 2) := by decide +kernel
theorem dX6_passDays_4 : decode cX6_passDays 4 = .ok (.invokestatic 25, 3) := by decide +kernel
theorem dX6_passDays_7 : decode cX6_passDays 7 = .ok (.ifCond .eq 13, 3) := by decide +kernel
theorem dX6_passDays_10 : decode cX6_passDays 10 = .ok (.aload_n 0, 1) := by decide +kernel
theorem dX6_passDays_11 : decode cX6_passDays 11 = .ok (.getfield 21, 3) := by decide +kernel
theorem dX6_passDays_14 : decode cX6_passDays 14 = .ok (.iconst 1, 1) := by decide +kernel
theorem dX6_passDays_15 : decode cX6_passDays 15 = .ok (.iconst 0, 1) := by decide +kernel
theorem dX6_passDays_16 : decode cX6_passDays 16 = .ok (.invokevirtual 29, 3) := by decide +kernel
theorem dX6_passDays_19 : decode cX6_passDays 19 = .ok (.ireturn, 1) := by decide +kernel
theorem dX6_passDays_20 : decode cX6_passDays 20 = .ok (.iconst 0, 1) := by decide +kernel
theorem dX6_passDays_21 : decode cX6_passDays 21 = .ok (.istore_n 2, 1) := by decide +kernel
theorem dX6_passDays_22 : decode cX6_passDays 22 = .ok (.iload_n 2, 1) := by decide +kernel
theorem dX6_passDays_23 : decode cX6_passDays 23 = .ok (.iload_n 1, 1) := by decide +kernel
theorem dX6_passDays_24 : decode cX6_passDays 24 = .ok (.if_icmp .ge 16, 3) := by decide +kernel
theorem dX6_passDays_27 : decode cX6_passDays 27 = .ok (.aload_n 0, 1) := by decide +kernel
theorem dX6_passDays_28 : decode cX6_passDays 28 = .ok (.getfield 12, 3) := by decide +kernel
theorem dX6_passDays_31 : decode cX6_passDays 31 = .ok (.invokevirtual 148, 3) := by decide +kernel
theorem dX6_passDays_34 : decode cX6_passDays 34 = .ok (.iinc 2 1, 3) := by decide +kernel
theorem dX6_passDays_37 : decode cX6_passDays 37 = .ok (.goto (-15), 3) := by decide +kernel
theorem dX6_passDays_40 : decode cX6_passDays 40 = .ok (.aload_n 0, 1) := by decide +kernel
theorem dX6_passDays_41 : decode cX6_passDays 41 = .ok (.getfield 12, 3) := by decide +kernel
theorem dX6_passDays_44 : decode cX6_passDays 44 = .ok (.iconst 3, 1) := by decide +kernel
theorem dX6_passDays_45 : decode cX6_passDays 45 = .ok (.invokevirtual 151, 3) := by decide +kernel
theorem dX6_passDays_48 : decode cX6_passDays 48 = .ok (.ireturn, 1) := by decide +kernel
theorem dX7_init_0 : decode cX7_init 0 = .ok (.aload_n 0, 1) := by decide +kernel
theorem dX7_init_1 : decode cX7_init 1 = .ok (.invokespecial 1, 3) := by decide +kernel
theorem dX7_init_4 : decode cX7_init 4 = .ok (.aload_n 0, 1) := by decide +kernel
theorem dX7_init_5 : decode cX7_init 5 = .ok (.new 7, 3) := by decide +kernel
theorem dX7_init_8 : decode cX7_init 8 = .ok (.dup, 1) := by decide +kernel
theorem dX7_init_9 : decode cX7_init 9 = .ok (.invokespecial 9, 3) := by decide +kernel
theorem dX7_init_12 : decode cX7_init 12 = .ok (.putfield 10, 3) := by decide +kernel
theorem dX7_init_15 : decode cX7_init 15 = .ok (.aload_n 0, 1) := by decide +kernel
theorem dX7_init_16 : decode cX7_init 16 = .ok (.aload_n 0, 1) := by decide +kernel
theorem dX7_init_17 : decode cX7_init 17 = .ok (.getfield 10, 3) := by decide +kernel
theorem dX7_init_20 : decode cX7_init 20 = .ok (.getfield 16, 3) := by decide +kernel
theorem dX7_init_23 : decode cX7_init 23 = .ok (.putfield 20, 3) := by decide +kernel
theorem dX7_init_26 : decode cX7_init 26 = .ok (.aload_n 0, 1) := by decide +kernel
theorem dX7_init_27 : decode cX7_init 27 = .ok (.aload_n 0, 1) := by decide +kernel
theorem dX7_init_28 : decode cX7_init 28 = .ok (.getfield 10, 3) := by decide +kernel
theorem dX7_init_31 : decode cX7_init 31 = .ok (.getfield 21, 3) := by decide +kernel
theorem dX7_init_34 : decode cX7_init 34 = .ok (.putfield 25, 3) := by decide +kernel
theorem dX7_init_37 : decode cX7_init 37 = .ok (.aload_n 0, 1) := by decide +kernel
theorem dX7_init_38 : decode cX7_init 38 = .ok (.new 28, 3) := by decide +kernel
theorem dX7_init_41 : decode cX7_init 41 = .ok (.dup, 1) := by decide +kernel
theorem dX7_init_42 : decode cX7_init 42 = .ok (.invokespecial 30, 3) := by decide +kernel
theorem dX7_init_45 : decode cX7_init 45 = .ok (.putfield 31, 3) := by decide +kernel
theorem dX7_init_48 : decode cX7_init 48 = .ok (.aload_n 0, 1) := by decide +kernel
theorem dX7_init_49 : decode cX7_init 49 = .ok (.new 35, 3) := by decide +kernel
theorem dX7_init_52 : decode cX7_init 52 = .ok (.dup, 1) := by decide +kernel
theorem dX7_init_53 : decode cX7_init 53 = .ok (.invokespecial 37, 3) := by decide +kernel
theorem dX7_init_56 : decode cX7_init 56 = .ok (.putfield 38, 3) := by decide +kernel
theorem dX7_init_59 : decode cX7_init 59 = .ok (.aload_n 0, 1) := by decide +kernel
theorem dX7_init_60 : decode cX7_init 60 = .ok (.new 41, 3) := by decide +kernel
theorem dX7_init_63 : decode cX7_init 63 = .ok (.dup, 1) := by decide +kernel
theorem dX7_init_64 : decode cX7_init 64 = .ok (.invokespecial 43, 3) := by decide +kernel
theorem dX7_init_67 : decode cX7_init 67 = .ok (.putfield 44, 3) := by decide +kernel
theorem dX7_init_70 : decode cX7_init 70 = .ok (.aload_n 0, 1) := by decide +kernel
theorem dX7_init_71 : decode cX7_init 71 = .ok (.iconst (-1), 1) := by decide +kernel
theorem dX7_init_72 : decode cX7_init 72 = .ok (.putfield 48, 3) := by decide +kernel
theorem dX7_init_75 : decode cX7_init 75 = .ok (.aload_n 0, 1) := by decide +kernel
theorem dX7_init_76 : decode cX7_init 76 = .ok (.new 52, 3) := by decide +kernel
theorem dX7_init_79 : decode cX7_init 79 = .ok (.dup, 1) := by decide +kernel
theorem dX7_init_80 : decode cX7_init 80 = .ok (.invokespecial 54, 3) := by decide +kernel
theorem dX7_init_83 : decode cX7_init 83 = .ok (.putfield 55, 3) := by decide +kernel
theorem dX7_init_86 : decode cX7_init 86 = .ok (.return_, 1) := by decide +kernel
theorem dX7_house_0 : decode cX7_house 0 = .ok (.aload_n 0, 1) := by decide +kernel
theorem dX7_house_1 : decode cX7_house 1 = .ok (.getfield 31, 3) := by decide +kernel
theorem dX7_house_4 : decode cX7_house 4 = .ok (.aload_n 0, 1) := by decide +kernel
theorem dX7_house_5 : decode cX7_house 5 = .ok (.getfield 20, 3) := by decide +kernel
theorem dX7_house_8 : decode cX7_house 8 = .ok (.invokevirtual 59, 3) := by decide +kernel
theorem dX7_house_11 : decode cX7_house 11 = .ok (.aload_n 0, 1) := by decide +kernel
theorem dX7_house_12 : decode cX7_house 12 = .ok (.aload_n 0, 1) := by decide +kernel
theorem dX7_house_13 : decode cX7_house 13 = .ok (.getfield 10, 3) := by decide +kernel
theorem dX7_house_16 : decode cX7_house 16 = .ok (.iload_n 1, 1) := by decide +kernel
theorem dX7_house_17 : decode cX7_house 17 = .ok (.iload_n 2, 1) := by decide +kernel
theorem dX7_house_18 : decode cX7_house 18 = .ok (.invokevirtual 63, 3) := by decide +kernel
theorem dX7_house_21 : decode cX7_house 21 = .ok (.invokevirtual 67, 3) := by decide +kernel
theorem dX7_house_24 : decode cX7_house 24 = .ok (.ireturn, 1) := by decide +kernel
theorem dX7_order_0 : decode cX7_order 0 = .ok (.aload_n 0, 1) := by decide +kernel
theorem dX7_order_1 : decode cX7_order 1 = .ok (.getfield 31, 3) := by decide +kernel
theorem dX7_order_4 : decode cX7_order 4 = .ok (.aload_n 0, 1) := by decide +kernel
theorem dX7_order_5 : decode cX7_order 5 = .ok (.getfield 20, 3) := by decide +kernel
theorem dX7_order_8 : decode cX7_order 8 = .ok (.invokevirtual 59, 3) := by decide +kernel
theorem dX7_order_11 : decode cX7_order 11 = .ok (.aload_n 0, 1) := by decide +kernel
theorem dX7_order_12 : decode cX7_order 12 = .ok (.aload_n 0, 1) := by decide +kernel
theorem dX7_order_13 : decode cX7_order 13 = .ok (.getfield 10, 3) := by decide +kernel
theorem dX7_order_16 : decode cX7_order 16 = .ok (.iload_n 1, 1) := by decide +kernel
theorem dX7_order_17 : decode cX7_order 17 = .ok (.iload_n 2, 1) := by decide +kernel
theorem dX7_order_18 : decode cX7_order 18 = .ok (.invokevirtual 71, 3) := by decide +kernel
theorem dX7_order_21 : decode cX7_order 21 = .ok (.invokevirtual 67, 3) := by decide +kernel
theorem dX7_order_24 : decode cX7_order 24 = .ok (.ireturn, 1) := by decide +kernel
theorem dX7_carrier_0 : decode cX7_carrier 0 = .ok (.aload_n 0, 1) := by decide +kernel
theorem dX7_carrier_1 : decode cX7_carrier 1 = .ok (.getfield 31, 3) := by decide +kernel
theorem dX7_carrier_4 : decode cX7_carrier 4 = .ok (.aload_n 0, 1) := by decide +kernel
theorem dX7_carrier_5 : decode cX7_carrier 5 = .ok (.getfield 20, 3) := by decide +kernel
theorem dX7_carrier_8 : decode cX7_carrier 8 = .ok (.invokevirtual 59, 3) := by decide +kernel
theorem dX7_carrier_11 : decode cX7_carrier 11 = .ok (.aload_n 0, 1) := by decide +kernel
theorem dX7_carrier_12 : decode cX7_carrier 12 = .ok (.aload_n 0, 1) := by decide +kernel
theorem dX7_carrier_13 : decode cX7_carrier 13 = .ok (.getfield 10, 3) := by decide +kernel
theorem dX7_carrier_16 : decode cX7_carrier 16 = .ok (.iload_n 1, 1) := by decide +kernel
theorem dX7_carrier_17 : decode cX7_carrier 17 = .ok (.invokevirtual 74, 3) := by decide +kernel
theorem dX7_carrier_20 : decode cX7_carrier 20 = .ok (.invokevirtual 67, 3) := by decide +kernel
theorem dX7_carrier_23 : decode cX7_carrier 23 = .ok (.ireturn, 1) := by decide +kernel
theorem dX7_load_0 : decode cX7_load 0 = .ok (.aload_n 0, 1) := by decide +kernel
theorem dX7_load_1 : decode cX7_load 1 = .ok (.getfield 31, 3) := by decide +kernel
theorem dX7_load_4 : decode cX7_load 4 = .ok (.aload_n 0, 1) := by decide +kernel
theorem dX7_load_5 : decode cX7_load 5 = .ok (.getfield 20, 3) := by decide +kernel
theorem dX7_load_8 : decode cX7_load 8 = .ok (.invokevirtual 59, 3) := by decide +kernel
theorem dX7_load_11 : decode cX7_load 11 = .ok (.aload_n 0, 1) := by decide +kernel
theorem dX7_load_12 : decode cX7_load 12 = .ok (.aload_n 0, 1) := by decide +kernel
theorem dX7_load_13 : decode cX7_load 13 = .ok (.getfield 10, 3) := by decide +kernel
theorem dX7_load_16 : decode cX7_load 16 = .ok (.iload_n 1, 1) := by decide +kernel
theorem dX7_load_17 : decode cX7_load 17 = .ok (.invokevirtual 77, 3) := by decide +kernel
theorem dX7_load_20 : decode cX7_load 20 = .ok (.invokevirtual 67, 3) := by decide +kernel
theorem dX7_load_23 : decode cX7_load 23 = .ok (.ireturn, 1) := by decide +kernel
theorem dX7_drive_0 : decode cX7_drive 0 = .ok (.aload_n 0, 1) := by decide +kernel
theorem dX7_drive_1 : decode cX7_drive 1 = .ok (.getfield 31, 3) := by decide +kernel
theorem dX7_drive_4 : decode cX7_drive 4 = .ok (.aload_n 0, 1) := by decide +kernel
theorem dX7_drive_5 : decode cX7_drive 5 = .ok (.getfield 20, 3) := by decide +kernel
theorem dX7_drive_8 : decode cX7_drive 8 = .ok (.invokevirtual 59, 3) := by decide +kernel
theorem dX7_drive_11 : decode cX7_drive 11 = .ok (.aload_n 0, 1) := by decide +kernel
theorem dX7_drive_12 : decode cX7_drive 12 = .ok (.aload_n 0, 1) := by decide +kernel
theorem dX7_drive_13 : decode cX7_drive 13 = .ok (.getfield 10, 3) := by decide +kernel
theorem dX7_drive_16 : decode cX7_drive 16 = .ok (.iload_n 1, 1) := by decide +kernel
theorem dX7_drive_17 : decode cX7_drive 17 = .ok (.invokevirtual 80, 3) := by decide +kernel
theorem dX7_drive_20 : decode cX7_drive 20 = .ok (.invokevirtual 67, 3) := by decide +kernel
theorem dX7_drive_23 : decode cX7_drive 23 = .ok (.ireturn, 1) := by decide +kernel
theorem dX7_carry_0 : decode cX7_carry 0 = .ok (.aload_n 0, 1) := by decide +kernel
theorem dX7_carry_1 : decode cX7_carry 1 = .ok (.getfield 31, 3) := by decide +kernel
theorem dX7_carry_4 : decode cX7_carry 4 = .ok (.aload_n 0, 1) := by decide +kernel
theorem dX7_carry_5 : decode cX7_carry 5 = .ok (.getfield 20, 3) := by decide +kernel
theorem dX7_carry_8 : decode cX7_carry 8 = .ok (.invokevirtual 59, 3) := by decide +kernel
theorem dX7_carry_11 : decode cX7_carry 11 = .ok (.aload_n 0, 1) := by decide +kernel
theorem dX7_carry_12 : decode cX7_carry 12 = .ok (.aload_n 0, 1) := by decide +kernel
theorem dX7_carry_13 : decode cX7_carry 13 = .ok (.getfield 10, 3) := by decide +kernel
theorem dX7_carry_16 : decode cX7_carry 16 = .ok (.iload_n 1, 1) := by decide +kernel
theorem dX7_carry_17 : decode cX7_carry 17 = .ok (.iload_n 2, 1) := by decide +kernel
theorem dX7_carry_18 : decode cX7_carry 18 = .ok (.invokevirtual 83, 3) := by decide +kernel
theorem dX7_carry_21 : decode cX7_carry 21 = .ok (.invokevirtual 67, 3) := by decide +kernel
theorem dX7_carry_24 : decode cX7_carry 24 = .ok (.ireturn, 1) := by decide +kernel
theorem dX7_bone_0 : decode cX7_bone 0 = .ok (.aload_n 0, 1) := by decide +kernel
theorem dX7_bone_1 : decode cX7_bone 1 = .ok (.getfield 31, 3) := by decide +kernel
theorem dX7_bone_4 : decode cX7_bone 4 = .ok (.aload_n 0, 1) := by decide +kernel
theorem dX7_bone_5 : decode cX7_bone 5 = .ok (.getfield 20, 3) := by decide +kernel
theorem dX7_bone_8 : decode cX7_bone 8 = .ok (.invokevirtual 59, 3) := by decide +kernel
theorem dX7_bone_11 : decode cX7_bone 11 = .ok (.aload_n 0, 1) := by decide +kernel
theorem dX7_bone_12 : decode cX7_bone 12 = .ok (.aload_n 0, 1) := by decide +kernel
theorem dX7_bone_13 : decode cX7_bone 13 = .ok (.getfield 10, 3) := by decide +kernel
theorem dX7_bone_16 : decode cX7_bone 16 = .ok (.invokevirtual 86, 3) := by decide +kernel
theorem dX7_bone_19 : decode cX7_bone 19 = .ok (.invokevirtual 67, 3) := by decide +kernel
theorem dX7_bone_22 : decode cX7_bone 22 = .ok (.ireturn, 1) := by decide +kernel
theorem dX7_bones_0 : decode cX7_bones 0 = .ok (.aload_n 0, 1) := by decide +kernel
theorem dX7_bones_1 : decode cX7_bones 1 = .ok (.getfield 31, 3) := by decide +kernel
theorem dX7_bones_4 : decode cX7_bones 4 = .ok (.aload_n 0, 1) := by decide +kernel
theorem dX7_bones_5 : decode cX7_bones 5 = .ok (.getfield 20, 3) := by decide +kernel
theorem dX7_bones_8 : decode cX7_bones 8 = .ok (.invokevirtual 59, 3) := by decide +kernel
theorem dX7_bones_11 : decode cX7_bones 11 = .ok (.aload_n 0, 1) := by decide +kernel
theorem dX7_bones_12 : decode cX7_bones 12 = .ok (.aload_n 0, 1) := by decide +kernel
theorem dX7_bones_13 : decode cX7_bones 13 = .ok (.getfield 10, 3) := by decide +kernel
theorem dX7_bones_16 : decode cX7_bones 16 = .ok (.iload_n 1, 1) := by decide +kernel
theorem dX7_bones_17 : decode cX7_bones 17 = .ok (.invokevirtual 90, 3) := by decide +kernel
theorem dX7_bones_20 : decode cX7_bones 20 = .ok (.invokevirtual 67, 3) := by decide +kernel
theorem dX7_bones_23 : decode cX7_bones 23 = .ok (.ireturn, 1) := by decide +kernel
theorem dX7_mop_0 : decode cX7_mop 0 = .ok (.aload_n 0, 1) := by decide +kernel
theorem dX7_mop_1 : decode cX7_mop 1 = .ok (.getfield 31, 3) := by decide +kernel
theorem dX7_mop_4 : decode cX7_mop 4 = .ok (.aload_n 0, 1) := by decide +kernel
theorem dX7_mop_5 : decode cX7_mop 5 = .ok (.getfield 20, 3) := by decide +kernel
theorem dX7_mop_8 : decode cX7_mop 8 = .ok (.invokevirtual 59, 3) := by decide +kernel
theorem dX7_mop_11 : decode cX7_mop 11 = .ok (.aload_n 0, 1) := by decide +kernel
theorem dX7_mop_12 : decode cX7_mop 12 = .ok (.aload_n 0, 1) := by decide +kernel
theorem dX7_mop_13 : decode cX7_mop 13 = .ok (.getfield 10, 3) := by decide +kernel
theorem dX7_mop_16 : decode cX7_mop 16 = .ok (.iload_n 1, 1) := by decide +kernel
theorem dX7_mop_17 : decode cX7_mop 17 = .ok (.invokevirtual 93, 3) := by decide +kernel
theorem dX7_mop_20 : decode cX7_mop 20 = .ok (.invokevirtual 67, 3) := by decide +kernel
theorem dX7_mop_23 : decode cX7_mop 23 = .ok (.ireturn, 1) := by decide +kernel
theorem dX7_pay_0 : decode cX7_pay 0 = .ok (.aload_n 0, 1) := by decide +kernel
theorem dX7_pay_1 : decode cX7_pay 1 = .ok (.getfield 31, 3) := by decide +kernel
theorem dX7_pay_4 : decode cX7_pay 4 = .ok (.aload_n 0, 1) := by decide +kernel
theorem dX7_pay_5 : decode cX7_pay 5 = .ok (.getfield 20, 3) := by decide +kernel
theorem dX7_pay_8 : decode cX7_pay 8 = .ok (.invokevirtual 59, 3) := by decide +kernel
theorem dX7_pay_11 : decode cX7_pay 11 = .ok (.aload_n 0, 1) := by decide +kernel
theorem dX7_pay_12 : decode cX7_pay 12 = .ok (.aload_n 0, 1) := by decide +kernel
theorem dX7_pay_13 : decode cX7_pay 13 = .ok (.getfield 10, 3) := by decide +kernel
theorem dX7_pay_16 : decode cX7_pay 16 = .ok (.iload_n 1, 1) := by decide +kernel
theorem dX7_pay_17 : decode cX7_pay 17 = .ok (.iload_n 2, 1) := by decide +kernel
theorem dX7_pay_18 : decode cX7_pay 18 = .ok (.invokevirtual 96, 3) := by decide +kernel
theorem dX7_pay_21 : decode cX7_pay 21 = .ok (.invokevirtual 67, 3) := by decide +kernel
theorem dX7_pay_24 : decode cX7_pay 24 = .ok (.ireturn, 1) := by decide +kernel
theorem dX7_shoe_0 : decode cX7_shoe 0 = .ok (.aload_n 0, 1) := by decide +kernel
theorem dX7_shoe_1 : decode cX7_shoe 1 = .ok (.getfield 31, 3) := by decide +kernel
theorem dX7_shoe_4 : decode cX7_shoe 4 = .ok (.aload_n 0, 1) := by decide +kernel
theorem dX7_shoe_5 : decode cX7_shoe 5 = .ok (.getfield 20, 3) := by decide +kernel
theorem dX7_shoe_8 : decode cX7_shoe 8 = .ok (.invokevirtual 59, 3) := by decide +kernel
theorem dX7_shoe_11 : decode cX7_shoe 11 = .ok (.aload_n 0, 1) := by decide +kernel
theorem dX7_shoe_12 : decode cX7_shoe 12 = .ok (.aload_n 0, 1) := by decide +kernel
theorem dX7_shoe_13 : decode cX7_shoe 13 = .ok (.getfield 10, 3) := by decide +kernel
theorem dX7_shoe_16 : decode cX7_shoe 16 = .ok (.iload_n 1, 1) := by decide +kernel
theorem dX7_shoe_17 : decode cX7_shoe 17 = .ok (.invokevirtual 99, 3) := by decide +kernel
theorem dX7_shoe_20 : decode cX7_shoe 20 = .ok (.invokevirtual 67, 3) := by decide +kernel
theorem dX7_shoe_23 : decode cX7_shoe 23 = .ok (.ireturn, 1) := by decide +kernel
theorem dX7_days_0 : decode cX7_days 0 = .ok (.aload_n 0, 1) := by decide +kernel
theorem dX7_days_1 : decode cX7_days 1 = .ok (.getfield 31, 3) := by decide +kernel
theorem dX7_days_4 : decode cX7_days 4 = .ok (.aload_n 0, 1) := by decide +kernel
theorem dX7_days_5 : decode cX7_days 5 = .ok (.getfield 20, 3) := by decide +kernel
theorem dX7_days_8 : decode cX7_days 8 = .ok (.invokevirtual 59, 3) := by decide +kernel
theorem dX7_days_11 : decode cX7_days 11 = .ok (.aload_n 0, 1) := by decide +kernel
theorem dX7_days_12 : decode cX7_days 12 = .ok (.aload_n 0, 1) := by decide +kernel
theorem dX7_days_13 : decode cX7_days 13 = .ok (.getfield 10, 3) := by decide +kernel
theorem dX7_days_16 : decode cX7_days 16 = .ok (.iload_n 1, 1) := by decide +kernel
theorem dX7_days_17 : decode cX7_days 17 = .ok (.invokevirtual 102, 3) := by decide +kernel
theorem dX7_days_20 : decode cX7_days 20 = .ok (.invokevirtual 67, 3) := by decide +kernel
theorem dX7_days_23 : decode cX7_days 23 = .ok (.ireturn, 1) := by decide +kernel
theorem dX7_houseOf_0 : decode cX7_houseOf 0 = .ok (.aload_n 0, 1) := by decide +kernel
theorem dX7_houseOf_1 : decode cX7_houseOf 1 = .ok (.getfield 20, 3) := by decide +kernel
theorem dX7_houseOf_4 : decode cX7_houseOf 4 = .ok (.iload_n 1, 1) := by decide +kernel
theorem dX7_houseOf_5 : decode cX7_houseOf 5 = .ok (.invokevirtual 105, 3) := by decide +kernel
theorem dX7_houseOf_8 : decode cX7_houseOf 8 = .ok (.astore_n 3, 1) := by decide +kernel
theorem dX7_houseOf_9 : decode cX7_houseOf 9 = .ok (.aload_n 3, 1) := by decide +kernel
theorem dX7_houseOf_10 : decode cX7_houseOf 10 = .ok (.ifnonnull 13, 3) := by decide +kernel
theorem dX7_houseOf_13 : decode cX7_houseOf 13 = .ok (.new 109, 3) := by decide +kernel
theorem dX7_houseOf_16 : decode cX7_houseOf 16 = .ok (.dup, 1) := by decide +kernel
theorem dX7_houseOf_17 : decode cX7_houseOf 17 = .ok (.ldc 111, 2) := by decide +kernel
theorem dX7_houseOf_19 : decode cX7_houseOf 19 = .ok (.invokespecial 113, 3) := by decide +kernel
theorem dX7_houseOf_22 : decode cX7_houseOf 22 = .ok (.athrow, 1) := by decide +kernel
theorem dX7_houseOf_23 : decode cX7_houseOf 23 = .ok (.iload_n 2, 1) := by decide +kernel
theorem dX7_houseOf_24 : decode cX7_houseOf 24 = .ok (.iconst 0, 1) := by decide +kernel
theorem dX7_houseOf_25 : decode cX7_houseOf 25 = .ok (.bipush 7, 2) := by decide +kernel
theorem dX7_houseOf_27 : decode cX7_houseOf 27 = .ok (.invokestatic 116, 3) := by decide +kernel
theorem dX7_houseOf_30 : decode cX7_houseOf 30 = .ok (.ifCond .eq 13, 3) := by decide +kernel
theorem dX7_houseOf_33 : decode cX7_houseOf 33 = .ok (.new 120, 3) := by decide +kernel
theorem dX7_houseOf_36 : decode cX7_houseOf 36 = .ok (.dup, 1) := by decide +kernel
theorem dX7_houseOf_37 : decode cX7_houseOf 37 = .ok (.ldc 122, 2) := by decide +kernel
theorem dX7_houseOf_39 : decode cX7_houseOf 39 = .ok (.invokespecial 124, 3) := by decide +kernel
theorem dX7_houseOf_42 : decode cX7_houseOf 42 = .ok (.athrow, 1) := by decide +kernel
theorem dX7_houseOf_43 : decode cX7_houseOf 43 = .ok (.aload_n 3, 1) := by decide +kernel
theorem dX7_houseOf_44 : decode cX7_houseOf 44 = .ok (.iload_n 2, 1) := by decide +kernel
theorem dX7_houseOf_45 : decode cX7_houseOf 45 = .ok (.invokevirtual 125, 3) := by decide +kernel
theorem dX7_houseOf_48 : decode cX7_houseOf 48 = .ok (.ireturn, 1) := by decide +kernel
theorem dX7_carrierOf_0 : decode cX7_carrierOf 0 = .ok (.aload_n 0, 1) := by decide +kernel
theorem dX7_carrierOf_1 : decode cX7_carrierOf 1 = .ok (.getfield 20, 3) := by decide +kernel
theorem dX7_carrierOf_4 : decode cX7_carrierOf 4 = .ok (.iload_n 1, 1) := by decide +kernel
theorem dX7_carrierOf_5 : decode cX7_carrierOf 5 = .ok (.invokevirtual 130, 3) := by decide +kernel
theorem dX7_carrierOf_8 : decode cX7_carrierOf 8 = .ok (.astore_n 3, 1) := by decide +kernel
theorem dX7_carrierOf_9 : decode cX7_carrierOf 9 = .ok (.aload_n 3, 1) := by decide +kernel
theorem dX7_carrierOf_10 : decode cX7_carrierOf 10 = .ok (.ifnonnull 13, 3) := by decide +kernel
theorem dX7_carrierOf_13 : decode cX7_carrierOf 13 = .ok (.new 109, 3) := by decide +kernel
theorem dX7_carrierOf_16 : decode cX7_carrierOf 16 = .ok (.dup, 1) := by decide +kernel
theorem dX7_carrierOf_17 : decode cX7_carrierOf 17 = .ok (.ldc 134, 2) := by decide +kernel
theorem dX7_carrierOf_19 : decode cX7_carrierOf 19 = .ok (.invokespecial 113, 3) := by decide +kernel
theorem dX7_carrierOf_22 : decode cX7_carrierOf 22 = .ok (.athrow, 1) := by decide +kernel
theorem dX7_carrierOf_23 : decode cX7_carrierOf 23 = .ok (.iload_n 2, 1) := by decide +kernel
theorem dX7_carrierOf_24 : decode cX7_carrierOf 24 = .ok (.iconst 0, 1) := by decide +kernel
theorem dX7_carrierOf_25 : decode cX7_carrierOf 25 = .ok (.iconst 3, 1) := by decide +kernel
theorem dX7_carrierOf_26 : decode cX7_carrierOf 26 = .ok (.invokestatic 116, 3) := by decide +kernel
theorem dX7_carrierOf_29 : decode cX7_carrierOf 29 = .ok (.ifCond .eq 13, 3) := by decide +kernel
theorem dX7_carrierOf_32 : decode cX7_carrierOf 32 = .ok (.new 120, 3) := by decide +kernel
theorem dX7_carrierOf_35 : decode cX7_carrierOf 35 = .ok (.dup, 1) := by decide +kernel
theorem dX7_carrierOf_36 : decode cX7_carrierOf 36 = .ok (.ldc 136, 2) := by decide +kernel
theorem dX7_carrierOf_38 : decode cX7_carrierOf 38 = .ok (.invokespecial 124, 3) := by decide +kernel
theorem dX7_carrierOf_41 : decode cX7_carrierOf 41 = .ok (.athrow, 1) := by decide +kernel
theorem dX7_carrierOf_42 : decode cX7_carrierOf 42 = .ok (.aload_n 3, 1) := by decide +kernel
theorem dX7_carrierOf_43 : decode cX7_carrierOf 43 = .ok (.iload_n 2, 1) := by decide +kernel
theorem dX7_carrierOf_44 : decode cX7_carrierOf 44 = .ok (.invokevirtual 138, 3) := by decide +kernel
theorem dX7_carrierOf_47 : decode cX7_carrierOf 47 = .ok (.ireturn, 1) := by decide +kernel
theorem dX7_shoeOf_0 : decode cX7_shoeOf 0 = .ok (.iload_n 1, 1) := by decide +kernel
theorem dX7_shoeOf_1 : decode cX7_shoeOf 1 = .ok (.iconst 0, 1) := by decide +kernel
theorem dX7_shoeOf_2 : decode cX7_shoeOf 2 = .ok (.iconst 3, 1) := by decide +kernel
theorem dX7_shoeOf_3 : decode cX7_shoeOf 3 = .ok (.invokestatic 116, 3) := by decide +kernel
theorem dX7_shoeOf_6 : decode cX7_shoeOf 6 = .ok (.ifCond .eq 13, 3) := by decide +kernel
theorem dX7_shoeOf_9 : decode cX7_shoeOf 9 = .ok (.new 109, 3) := by decide +kernel
theorem dX7_shoeOf_12 : decode cX7_shoeOf 12 = .ok (.dup, 1) := by decide +kernel
theorem dX7_shoeOf_13 : decode cX7_shoeOf 13 = .ok (.ldc 141, 2) := by decide +kernel
theorem dX7_shoeOf_15 : decode cX7_shoeOf 15 = .ok (.invokespecial 113, 3) := by decide +kernel
theorem dX7_shoeOf_18 : decode cX7_shoeOf 18 = .ok (.athrow, 1) := by decide +kernel
theorem dX7_shoeOf_19 : decode cX7_shoeOf 19 = .ok (.aload_n 0, 1) := by decide +kernel
theorem dX7_shoeOf_20 : decode cX7_shoeOf 20 = .ok (.getfield 20, 3) := by decide +kernel
theorem dX7_shoeOf_23 : decode cX7_shoeOf 23 = .ok (.getfield 143, 3) := by decide +kernel
theorem dX7_shoeOf_26 : decode cX7_shoeOf 26 = .ok (.iload_n 1, 1) := by decide +kernel
theorem dX7_shoeOf_27 : decode cX7_shoeOf 27 = .ok (.iaload, 1) := by decide +kernel
theorem dX7_shoeOf_28 : decode cX7_shoeOf 28 = .ok (.ireturn, 1) := by decide +kernel
theorem dX7_reach_0 : decode cX7_reach 0 = .ok (.aload_n 0, 1) := by decide +kernel
theorem dX7_reach_1 : decode cX7_reach 1 = .ok (.getfield 20, 3) := by decide +kernel
theorem dX7_reach_4 : decode cX7_reach 4 = .ok (.invokevirtual 168, 3) := by decide +kernel
theorem dX7_reach_7 : decode cX7_reach 7 = .ok (.iconst 3, 1) := by decide +kernel
theorem dX7_reach_8 : decode cX7_reach 8 = .ok (.if_icmp .ge 13, 3) := by decide +kernel
theorem dX7_reach_11 : decode cX7_reach 11 = .ok (.aload_n 0, 1) := by decide +kernel
theorem dX7_reach_12 : decode cX7_reach 12 = .ok (.getfield 20, 3) := by decide +kernel
theorem dX7_reach_15 : decode cX7_reach 15 = .ok (.getfield 171, 3) := by decide +kernel
theorem dX7_reach_18 : decode cX7_reach 18 = .ok (.goto 10, 3) := by decide +kernel
theorem dX7_reach_21 : decode cX7_reach 21 = .ok (.aload_n 0, 1) := by decide +kernel
theorem dX7_reach_22 : decode cX7_reach 22 = .ok (.getfield 20, 3) := by decide +kernel
theorem dX7_reach_25 : decode cX7_reach 25 = .ok (.getfield 174, 3) := by decide +kernel
theorem dX7_reach_28 : decode cX7_reach 28 = .ok (.ireturn, 1) := by decide +kernel
theorem dX7_isQuiet_0 : decode cX7_isQuiet 0 = .ok (.aload_n 0, 1) := by decide +kernel
theorem dX7_isQuiet_1 : decode cX7_isQuiet 1 = .ok (.getfield 20, 3) := by decide +kernel
theorem dX7_isQuiet_4 : decode cX7_isQuiet 4 = .ok (.iload_n 1, 1) := by decide +kernel
theorem dX7_isQuiet_5 : decode cX7_isQuiet 5 = .ok (.invokevirtual 105, 3) := by decide +kernel
theorem dX7_isQuiet_8 : decode cX7_isQuiet 8 = .ok (.astore_n 2, 1) := by decide +kernel
theorem dX7_isQuiet_9 : decode cX7_isQuiet 9 = .ok (.aload_n 2, 1) := by decide +kernel
theorem dX7_isQuiet_10 : decode cX7_isQuiet 10 = .ok (.ifnonnull 13, 3) := by decide +kernel
theorem dX7_isQuiet_13 : decode cX7_isQuiet 13 = .ok (.new 109, 3) := by decide +kernel
theorem dX7_isQuiet_16 : decode cX7_isQuiet 16 = .ok (.dup, 1) := by decide +kernel
theorem dX7_isQuiet_17 : decode cX7_isQuiet 17 = .ok (.ldc 111, 2) := by decide +kernel
theorem dX7_isQuiet_19 : decode cX7_isQuiet 19 = .ok (.invokespecial 113, 3) := by decide +kernel
theorem dX7_isQuiet_22 : decode cX7_isQuiet 22 = .ok (.athrow, 1) := by decide +kernel
theorem dX7_isQuiet_23 : decode cX7_isQuiet 23 = .ok (.aload_n 2, 1) := by decide +kernel
theorem dX7_isQuiet_24 : decode cX7_isQuiet 24 = .ok (.invokevirtual 177, 3) := by decide +kernel
theorem dX7_isQuiet_27 : decode cX7_isQuiet 27 = .ok (.ifCond .le 7, 3) := by decide +kernel
theorem dX7_isQuiet_30 : decode cX7_isQuiet 30 = .ok (.iconst 1, 1) := by decide +kernel
theorem dX7_isQuiet_31 : decode cX7_isQuiet 31 = .ok (.goto 4, 3) := by decide +kernel
theorem dX7_isQuiet_34 : decode cX7_isQuiet 34 = .ok (.iconst 0, 1) := by decide +kernel
theorem dX7_isQuiet_35 : decode cX7_isQuiet 35 = .ok (.ireturn, 1) := by decide +kernel
theorem dX7_ranked_0 : decode cX7_ranked 0 = .ok (.aload_n 0, 1) := by decide +kernel
theorem dX7_ranked_1 : decode cX7_ranked 1 = .ok (.getfield 20, 3) := by decide +kernel
theorem dX7_ranked_4 : decode cX7_ranked 4 = .ok (.iload_n 1, 1) := by decide +kernel
theorem dX7_ranked_5 : decode cX7_ranked 5 = .ok (.invokevirtual 180, 3) := by decide +kernel
theorem dX7_ranked_8 : decode cX7_ranked 8 = .ok (.istore_n 2, 1) := by decide +kernel
theorem dX7_ranked_9 : decode cX7_ranked 9 = .ok (.iload_n 2, 1) := by decide +kernel
theorem dX7_ranked_10 : decode cX7_ranked 10 = .ok (.iconst (-1), 1) := by decide +kernel
theorem dX7_ranked_11 : decode cX7_ranked 11 = .ok (.if_icmp .ne 13, 3) := by decide +kernel
theorem dX7_ranked_14 : decode cX7_ranked 14 = .ok (.new 163, 3) := by decide +kernel
theorem dX7_ranked_17 : decode cX7_ranked 17 = .ok (.dup, 1) := by decide +kernel
theorem dX7_ranked_18 : decode cX7_ranked 18 = .ok (.ldc 183, 2) := by decide +kernel
theorem dX7_ranked_20 : decode cX7_ranked 20 = .ok (.invokespecial 167, 3) := by decide +kernel
theorem dX7_ranked_23 : decode cX7_ranked 23 = .ok (.athrow, 1) := by decide +kernel
theorem dX7_ranked_24 : decode cX7_ranked 24 = .ok (.iload_n 2, 1) := by decide +kernel
theorem dX7_ranked_25 : decode cX7_ranked 25 = .ok (.ireturn, 1) := by decide +kernel
theorem dX7_carried_0 : decode cX7_carried 0 = .ok (.aload_n 0, 1) := by decide +kernel
theorem dX7_carried_1 : decode cX7_carried 1 = .ok (.getfield 20, 3) := by decide +kernel
theorem dX7_carried_4 : decode cX7_carried 4 = .ok (.invokevirtual 185, 3) := by decide +kernel
theorem dX7_carried_7 : decode cX7_carried 7 = .ok (.ireturn, 1) := by decide +kernel
theorem dX7_carriedAgain_0 : decode cX7_carriedAgain 0 = .ok (.aload_n 0, 1) := by decide +kernel
theorem dX7_carriedAgain_1 : decode cX7_carriedAgain 1 = .ok (.getfield 20, 3) := by decide +kernel
theorem dX7_carriedAgain_4 : decode cX7_carriedAgain 4 = .ok (.invokevirtual 188, 3) := by decide +kernel
theorem dX7_carriedAgain_7 : decode cX7_carriedAgain 7 = .ok (.iconst 3, 1) := by decide +kernel
theorem dX7_carriedAgain_8 : decode cX7_carriedAgain 8 = .ok (.idiv, 1) := by decide +kernel
theorem dX7_carriedAgain_9 : decode cX7_carriedAgain 9 = .ok (.ireturn, 1) := by decide +kernel
theorem dX7_meanArrears_0 : decode cX7_meanArrears 0 = .ok (.aload_n 0, 1) := by decide +kernel
theorem dX7_meanArrears_1 : decode cX7_meanArrears 1 = .ok (.getfield 20, 3) := by decide +kernel
theorem dX7_meanArrears_4 : decode cX7_meanArrears 4 = .ok (.getfield 174, 3) := by decide +kernel
theorem dX7_meanArrears_7 : decode cX7_meanArrears 7 = .ok (.ifCond .ne 14, 3) := by decide +kernel
theorem dX7_meanArrears_10 : decode cX7_meanArrears 10 = .ok (.new 276, 3) := by decide +kernel
theorem dX7_meanArrears_13 : decode cX7_meanArrears 13 = .ok (.dup, 1) := by decide +kernel
theorem dX7_meanArrears_14 : decode cX7_meanArrears 14 = .ok (.ldc_w 278, 3) := by decide +kernel
theorem dX7_meanArrears_17 : decode cX7_meanArrears 17 = .ok (.invokespecial 280, 3) := by decide +kernel
theorem dX7_meanArrears_20 : decode cX7_meanArrears 20 = .ok (.athrow, 1) := by decide +kernel
theorem dX7_meanArrears_21 : decode cX7_meanArrears 21 = .ok (.aload_n 0, 1) := by decide +kernel
theorem dX7_meanArrears_22 : decode cX7_meanArrears 22 = .ok (.getfield 20, 3) := by decide +kernel
theorem dX7_meanArrears_25 : decode cX7_meanArrears 25 = .ok (.iconst 4, 1) := by decide +kernel
theorem dX7_meanArrears_26 : decode cX7_meanArrears 26 = .ok (.invokevirtual 281, 3) := by decide +kernel
theorem dX7_meanArrears_29 : decode cX7_meanArrears 29 = .ok (.i2f, 1) := by decide +kernel
theorem dX7_meanArrears_30 : decode cX7_meanArrears 30 = .ok (.aload_n 0, 1) := by decide +kernel
theorem dX7_meanArrears_31 : decode cX7_meanArrears 31 = .ok (.getfield 20, 3) := by decide +kernel
theorem dX7_meanArrears_34 : decode cX7_meanArrears 34 = .ok (.getfield 174, 3) := by decide +kernel
theorem dX7_meanArrears_37 : decode cX7_meanArrears 37 = .ok (.i2f, 1) := by decide +kernel
theorem dX7_meanArrears_38 : decode cX7_meanArrears 38 = .ok (.fdiv, 1) := by decide +kernel
theorem dX7_meanArrears_39 : decode cX7_meanArrears 39 = .ok (.freturn, 1) := by decide +kernel
theorem dX7_paidShare_0 : decode cX7_paidShare 0 = .ok (.aload_n 0, 1) := by decide +kernel
theorem dX7_paidShare_1 : decode cX7_paidShare 1 = .ok (.getfield 20, 3) := by decide +kernel
theorem dX7_paidShare_4 : decode cX7_paidShare 4 = .ok (.invokevirtual 188, 3) := by decide +kernel
theorem dX7_paidShare_7 : decode cX7_paidShare 7 = .ok (.istore_n 1, 1) := by decide +kernel
theorem dX7_paidShare_8 : decode cX7_paidShare 8 = .ok (.iload_n 1, 1) := by decide +kernel
theorem dX7_paidShare_9 : decode cX7_paidShare 9 = .ok (.ifCond .ne 14, 3) := by decide +kernel
theorem dX7_paidShare_12 : decode cX7_paidShare 12 = .ok (.new 276, 3) := by decide +kernel
theorem dX7_paidShare_15 : decode cX7_paidShare 15 = .ok (.dup, 1) := by decide +kernel
theorem dX7_paidShare_16 : decode cX7_paidShare 16 = .ok (.ldc_w 284, 3) := by decide +kernel
theorem dX7_paidShare_19 : decode cX7_paidShare 19 = .ok (.invokespecial 280, 3) := by decide +kernel
theorem dX7_paidShare_22 : decode cX7_paidShare 22 = .ok (.athrow, 1) := by decide +kernel
theorem dX7_paidShare_23 : decode cX7_paidShare 23 = .ok (.aload_n 0, 1) := by decide +kernel
theorem dX7_paidShare_24 : decode cX7_paidShare 24 = .ok (.getfield 20, 3) := by decide +kernel
theorem dX7_paidShare_27 : decode cX7_paidShare 27 = .ok (.getfield 286, 3) := by decide +kernel
theorem dX7_paidShare_30 : decode cX7_paidShare 30 = .ok (.i2d, 1) := by decide +kernel
theorem dX7_paidShare_31 : decode cX7_paidShare 31 = .ok (.iload_n 1, 1) := by decide +kernel
theorem dX7_paidShare_32 : decode cX7_paidShare 32 = .ok (.i2d, 1) := by decide +kernel
theorem dX7_paidShare_33 : decode cX7_paidShare 33 = .ok (.ddiv, 1) := by decide +kernel
theorem dX7_paidShare_34 : decode cX7_paidShare 34 = .ok (.dreturn, 1) := by decide +kernel
theorem dX7_account_0 : decode cX7_account 0 = .ok (.iload_n 1, 1) := by decide +kernel
theorem dX7_account_1 : decode cX7_account 1 = .ok (.iconst 0, 1) := by decide +kernel
theorem dX7_account_2 : decode cX7_account 2 = .ok (.bipush 15, 2) := by decide +kernel
theorem dX7_account_4 : decode cX7_account 4 = .ok (.invokestatic 116, 3) := by decide +kernel
theorem dX7_account_7 : decode cX7_account 7 = .ok (.ifCond .eq 14, 3) := by decide +kernel
theorem dX7_account_10 : decode cX7_account 10 = .ok (.new 120, 3) := by decide +kernel
theorem dX7_account_13 : decode cX7_account 13 = .ok (.dup, 1) := by decide +kernel
theorem dX7_account_14 : decode cX7_account 14 = .ok (.ldc_w 289, 3) := by decide +kernel
theorem dX7_account_17 : decode cX7_account 17 = .ok (.invokespecial 124, 3) := by decide +kernel
theorem dX7_account_20 : decode cX7_account 20 = .ok (.athrow, 1) := by decide +kernel
theorem dX7_account_21 : decode cX7_account 21 = .ok (.iload_n 1, 1) := by decide +kernel
theorem dX7_account_22 : decode cX7_account 22 = .ok (.bipush 14, 2) := by decide +kernel
theorem dX7_account_24 : decode cX7_account 24 = .ok (.if_icmp .ne 11, 3) := by decide +kernel
theorem dX7_account_27 : decode cX7_account 27 = .ok (.aload_n 0, 1) := by decide +kernel
theorem dX7_account_28 : decode cX7_account 28 = .ok (.getfield 31, 3) := by decide +kernel
theorem dX7_account_31 : decode cX7_account 31 = .ok (.getfield 291, 3) := by decide +kernel
theorem dX7_account_34 : decode cX7_account 34 = .ok (.ireturn, 1) := by decide +kernel
theorem dX7_account_35 : decode cX7_account 35 = .ok (.iload_n 1, 1) := by decide +kernel
theorem dX7_account_36 : decode cX7_account 36 = .ok (.bipush 15, 2) := by decide +kernel
theorem dX7_account_38 : decode cX7_account 38 = .ok (.if_icmp .ne 11, 3) := by decide +kernel
theorem dX7_account_41 : decode cX7_account 41 = .ok (.aload_n 0, 1) := by decide +kernel
theorem dX7_account_42 : decode cX7_account 42 = .ok (.getfield 44, 3) := by decide +kernel
theorem dX7_account_45 : decode cX7_account 45 = .ok (.getfield 191, 3) := by decide +kernel
theorem dX7_account_48 : decode cX7_account 48 = .ok (.ireturn, 1) := by decide +kernel
theorem dX7_account_49 : decode cX7_account 49 = .ok (.aload_n 0, 1) := by decide +kernel
theorem dX7_account_50 : decode cX7_account 50 = .ok (.getfield 20, 3) := by decide +kernel
theorem dX7_account_53 : decode cX7_account 53 = .ok (.iload_n 1, 1) := by decide +kernel
theorem dX7_account_54 : decode cX7_account 54 = .ok (.invokevirtual 292, 3) := by decide +kernel
theorem dX7_account_57 : decode cX7_account 57 = .ok (.ireturn, 1) := by decide +kernel
theorem dX7_settled_0 : decode cX7_settled 0 = .ok (.iload_n 1, 1) := by decide +kernel
theorem dX7_settled_1 : decode cX7_settled 1 = .ok (.iconst (-1), 1) := by decide +kernel
theorem dX7_settled_2 : decode cX7_settled 2 = .ok (.if_icmp .ne 14, 3) := by decide +kernel
theorem dX7_settled_5 : decode cX7_settled 5 = .ok (.new 218, 3) := by decide +kernel
theorem dX7_settled_8 : decode cX7_settled 8 = .ok (.dup, 1) := by decide +kernel
theorem dX7_settled_9 : decode cX7_settled 9 = .ok (.ldc_w 313, 3) := by decide +kernel
theorem dX7_settled_12 : decode cX7_settled 12 = .ok (.invokespecial 222, 3) := by decide +kernel
theorem dX7_settled_15 : decode cX7_settled 15 = .ok (.athrow, 1) := by decide +kernel
theorem dX7_settled_16 : decode cX7_settled 16 = .ok (.aload_n 0, 1) := by decide +kernel
theorem dX7_settled_17 : decode cX7_settled 17 = .ok (.getfield 31, 3) := by decide +kernel
theorem dX7_settled_20 : decode cX7_settled 20 = .ok (.invokevirtual 223, 3) := by decide +kernel
theorem dX7_settled_23 : decode cX7_settled 23 = .ok (.iload_n 1, 1) := by decide +kernel
theorem dX7_settled_24 : decode cX7_settled 24 = .ok (.ireturn, 1) := by decide +kernel
theorem dX7_isOutside_0 : decode cX7_isOutside 0 = .ok (.iload_n 0, 1) := by decide +kernel
theorem dX7_isOutside_1 : decode cX7_isOutside 1 = .ok (.iload_n 1, 1) := by decide +kernel
theorem dX7_isOutside_2 : decode cX7_isOutside 2 = .ok (.if_icmp .lt 8, 3) := by decide +kernel
theorem dX7_isOutside_5 : decode cX7_isOutside 5 = .ok (.iload_n 0, 1) := by decide +kernel
theorem dX7_isOutside_6 : decode cX7_isOutside 6 = .ok (.iload_n 2, 1) := by decide +kernel
theorem dX7_isOutside_7 : decode cX7_isOutside 7 = .ok (.if_icmp .le 7, 3) := by decide +kernel
theorem dX7_isOutside_10 : decode cX7_isOutside 10 = .ok (.iconst 1, 1) := by decide +kernel
theorem dX7_isOutside_11 : decode cX7_isOutside 11 = .ok (.goto 4, 3) := by decide +kernel
theorem dX7_isOutside_14 : decode cX7_isOutside 14 = .ok (.iconst 0, 1) := by decide +kernel
theorem dX7_isOutside_15 : decode cX7_isOutside 15 = .ok (.ireturn, 1) := by decide +kernel
theorem dJ5_init_d00df_0 : decode cJ5_init_d00df 0 = .ok (.aload_n 0, 1) := by decide +kernel
theorem dJ5_init_d00df_1 : decode cJ5_init_d00df 1 = .ok (.invokespecial 3, 3) := by decide +kernel
theorem dJ5_init_d00df_4 : decode cJ5_init_d00df 4 = .ok (.getstatic 18, 3) := by decide +kernel
theorem dJ5_init_d00df_7 : decode cJ5_init_d00df 7 = .ok (.ifCond .eq 18, 3) := by decide +kernel
theorem dJ5_init_d00df_10 : decode cJ5_init_d00df 10 = .ok (.aload_n 0, 1) := by decide +kernel
theorem dJ5_init_d00df_11 : decode cJ5_init_d00df 11 = .ok (.iload_n 1, 1) := by decide +kernel
theorem dJ5_init_d00df_12 : decode cJ5_init_d00df 12 = .ok (.newarray .byte, 2) := by decide +kernel
theorem dJ5_init_d00df_14 : decode cJ5_init_d00df 14 = .ok (.putfield 15, 3) := by decide +kernel
theorem dJ5_init_d00df_17 : decode cJ5_init_d00df 17 = .ok (.aload_n 0, 1) := by decide +kernel
theorem dJ5_init_d00df_18 : decode cJ5_init_d00df 18 = .ok (.iconst 0, 1) := by decide +kernel
theorem dJ5_init_d00df_19 : decode cJ5_init_d00df 19 = .ok (.putfield 22, 3) := by decide +kernel
theorem dJ5_init_d00df_22 : decode cJ5_init_d00df 22 = .ok (.goto 16, 3) := by decide +kernel
theorem dJ5_init_d00df_25 : decode cJ5_init_d00df 25 = .ok (.aload_n 0, 1) := by decide +kernel
theorem dJ5_init_d00df_26 : decode cJ5_init_d00df 26 = .ok (.iload_n 1, 1) := by decide +kernel
theorem dJ5_init_d00df_27 : decode cJ5_init_d00df 27 = .ok (.invokestatic 26, 3) := by decide +kernel
theorem dJ5_init_d00df_30 : decode cJ5_init_d00df 30 = .ok (.putfield 15, 3) := by decide +kernel
theorem dJ5_init_d00df_33 : decode cJ5_init_d00df 33 = .ok (.aload_n 0, 1) := by decide +kernel
theorem dJ5_init_d00df_34 : decode cJ5_init_d00df 34 = .ok (.iconst 1, 1) := by decide +kernel
theorem dJ5_init_d00df_35 : decode cJ5_init_d00df 35 = .ok (.putfield 22, 3) := by decide +kernel
theorem dJ5_init_d00df_38 : decode cJ5_init_d00df 38 = .ok (.return_, 1) := by decide +kernel
theorem dJ9_max_7cf53_0 : decode cJ9_max_7cf53 0 = .ok (.iload_n 0, 1) := by decide +kernel
theorem dJ9_max_7cf53_1 : decode cJ9_max_7cf53 1 = .ok (.iload_n 1, 1) := by decide +kernel
theorem dJ9_max_7cf53_2 : decode cJ9_max_7cf53 2 = .ok (.if_icmp .lt 7, 3) := by decide +kernel
theorem dJ9_max_7cf53_5 : decode cJ9_max_7cf53 5 = .ok (.iload_n 0, 1) := by decide +kernel
theorem dJ9_max_7cf53_6 : decode cJ9_max_7cf53 6 = .ok (.goto 4, 3) := by decide +kernel
theorem dJ9_max_7cf53_9 : decode cJ9_max_7cf53 9 = .ok (.iload_n 1, 1) := by decide +kernel
theorem dJ9_max_7cf53_10 : decode cJ9_max_7cf53 10 = .ok (.ireturn, 1) := by decide +kernel
theorem dJ9_min_7cf53_0 : decode cJ9_min_7cf53 0 = .ok (.iload_n 0, 1) := by decide +kernel
theorem dJ9_min_7cf53_1 : decode cJ9_min_7cf53 1 = .ok (.iload_n 1, 1) := by decide +kernel
theorem dJ9_min_7cf53_2 : decode cJ9_min_7cf53 2 = .ok (.if_icmp .gt 7, 3) := by decide +kernel
theorem dJ9_min_7cf53_5 : decode cJ9_min_7cf53 5 = .ok (.iload_n 0, 1) := by decide +kernel
theorem dJ9_min_7cf53_6 : decode cJ9_min_7cf53 6 = .ok (.goto 4, 3) := by decide +kernel
theorem dJ9_min_7cf53_9 : decode cJ9_min_7cf53 9 = .ok (.iload_n 1, 1) := by decide +kernel
theorem dJ9_min_7cf53_10 : decode cJ9_min_7cf53 10 = .ok (.ireturn, 1) := by decide +kernel
theorem dJ4_init_da8c8_0 : decode cJ4_init_da8c8 0 = .ok (.aload_n 0, 1) := by decide +kernel
theorem dJ4_init_da8c8_1 : decode cJ4_init_da8c8 1 = .ok (.bipush 16, 2) := by decide +kernel
theorem dJ4_init_da8c8_3 : decode cJ4_init_da8c8 3 = .ok (.invokespecial 1, 3) := by decide +kernel
theorem dJ4_init_da8c8_6 : decode cJ4_init_da8c8 6 = .ok (.return_, 1) := by decide +kernel
theorem dJ2_newBytesFor_77867_0 : decode cJ2_newBytesFor_77867 0 = .ok (.iload_n 0, 1) := by decide +kernel
theorem dJ2_newBytesFor_77867_1 : decode cJ2_newBytesFor_77867 1 = .ok (.invokestatic 11, 3) := by decide +kernel
theorem dJ2_newBytesFor_77867_4 : decode cJ2_newBytesFor_77867 4 = .ok (.newarray .byte, 2) := by decide +kernel
theorem dJ2_newBytesFor_77867_6 : decode cJ2_newBytesFor_77867 6 = .ok (.areturn, 1) := by decide +kernel
theorem dJ2_newBytesLength_0f7a4_0 : decode cJ2_newBytesLength_0f7a4 0 = .ok (.iload_n 0, 1) := by decide +kernel
theorem dJ2_newBytesLength_0f7a4_1 : decode cJ2_newBytesLength_0f7a4 1 = .ok (.ifCond .ge 11, 3) := by decide +kernel
theorem dJ2_newBytesLength_0f7a4_4 : decode cJ2_newBytesLength_0f7a4 4 = .ok (.new 17, 3) := by decide +kernel
theorem dJ2_newBytesLength_0f7a4_7 : decode cJ2_newBytesLength_0f7a4 7 = .ok (.dup, 1) := by decide +kernel
theorem dJ2_newBytesLength_0f7a4_8 : decode cJ2_newBytesLength_0f7a4 8 = .ok (.invokespecial 19, 3) := by decide +kernel
theorem dJ2_newBytesLength_0f7a4_11 : decode cJ2_newBytesLength_0f7a4 11 = .ok (.athrow, 1) := by decide +kernel
theorem dJ2_newBytesLength_0f7a4_12 : decode cJ2_newBytesLength_0f7a4 12 = .ok (.iload_n 0, 1) := by decide +kernel
theorem dJ2_newBytesLength_0f7a4_13 : decode cJ2_newBytesLength_0f7a4 13 = .ok (.ldc 20, 2) := by decide +kernel
theorem dJ2_newBytesLength_0f7a4_15 : decode cJ2_newBytesLength_0f7a4 15 = .ok (.if_icmp .lt 40, 3) := by decide +kernel
theorem dJ2_newBytesLength_0f7a4_18 : decode cJ2_newBytesLength_0f7a4 18 = .ok (.new 21, 3) := by decide +kernel
theorem dJ2_newBytesLength_0f7a4_21 : decode cJ2_newBytesLength_0f7a4 21 = .ok (.dup, 1) := by decide +kernel
theorem dJ2_newBytesLength_0f7a4_22 : decode cJ2_newBytesLength_0f7a4 22 = .ok (.new 23, 3) := by decide +kernel
theorem dJ2_newBytesLength_0f7a4_25 : decode cJ2_newBytesLength_0f7a4 25 = .ok (.dup, 1) := by decide +kernel
theorem dJ2_newBytesLength_0f7a4_26 : decode cJ2_newBytesLength_0f7a4 26 = .ok (.invokespecial 25, 3) := by decide +kernel
theorem dJ2_newBytesLength_0f7a4_29 : decode cJ2_newBytesLength_0f7a4 29 = .ok (.ldc 26, 2) := by decide +kernel
theorem dJ2_newBytesLength_0f7a4_31 : decode cJ2_newBytesLength_0f7a4 31 = .ok (.invokevirtual 28, 3) := by decide +kernel
theorem dJ2_newBytesLength_0f7a4_34 : decode cJ2_newBytesLength_0f7a4 34 = .ok (.iload_n 0, 1) := by decide +kernel
theorem dJ2_newBytesLength_0f7a4_35 : decode cJ2_newBytesLength_0f7a4 35 = .ok (.invokevirtual 32, 3) := by decide +kernel
theorem dJ2_newBytesLength_0f7a4_38 : decode cJ2_newBytesLength_0f7a4 38 = .ok (.ldc 35, 2) := by decide +kernel
theorem dJ2_newBytesLength_0f7a4_40 : decode cJ2_newBytesLength_0f7a4 40 = .ok (.invokevirtual 28, 3) := by decide +kernel
theorem dJ2_newBytesLength_0f7a4_43 : decode cJ2_newBytesLength_0f7a4 43 = .ok (.ldc 20, 2) := by decide +kernel
theorem dJ2_newBytesLength_0f7a4_45 : decode cJ2_newBytesLength_0f7a4 45 = .ok (.invokevirtual 32, 3) := by decide +kernel
theorem dJ2_newBytesLength_0f7a4_48 : decode cJ2_newBytesLength_0f7a4 48 = .ok (.invokevirtual 37, 3) := by decide +kernel
theorem dJ2_newBytesLength_0f7a4_51 : decode cJ2_newBytesLength_0f7a4 51 = .ok (.invokespecial 41, 3) := by decide +kernel
theorem dJ2_newBytesLength_0f7a4_54 : decode cJ2_newBytesLength_0f7a4 54 = .ok (.athrow, 1) := by decide +kernel
theorem dJ2_newBytesLength_0f7a4_55 : decode cJ2_newBytesLength_0f7a4 55 = .ok (.iload_n 0, 1) := by decide +kernel
theorem dJ2_newBytesLength_0f7a4_56 : decode cJ2_newBytesLength_0f7a4 56 = .ok (.iconst 1, 1) := by decide +kernel
theorem dJ2_newBytesLength_0f7a4_57 : decode cJ2_newBytesLength_0f7a4 57 = .ok (.ishl, 1) := by decide +kernel
theorem dJ2_newBytesLength_0f7a4_58 : decode cJ2_newBytesLength_0f7a4 58 = .ok (.ireturn, 1) := by decide +kernel
theorem dL_cell_0 : decode cL_cell 0 = .ok (.ldc 7, 2) := by decide +kernel
theorem dL_cell_2 : decode cL_cell 2 = .ok (.iload_n 1, 1) := by decide +kernel
theorem dL_cell_3 : decode cL_cell 3 = .ok (.aload_n 0, 1) := by decide +kernel
theorem dL_cell_4 : decode cL_cell 4 = .ok (.arraylength, 1) := by decide +kernel
theorem dL_cell_5 : decode cL_cell 5 = .ok (.if_icmp .ge 9, 3) := by decide +kernel
theorem dL_cell_8 : decode cL_cell 8 = .ok (.aload_n 0, 1) := by decide +kernel
theorem dL_cell_9 : decode cL_cell 9 = .ok (.iload_n 1, 1) := by decide +kernel
theorem dL_cell_10 : decode cL_cell 10 = .ok (.iaload, 1) := by decide +kernel
theorem dL_cell_11 : decode cL_cell 11 = .ok (.goto 4, 3) := by decide +kernel
theorem dL_cell_14 : decode cL_cell 14 = .ok (.iconst 0, 1) := by decide +kernel
theorem dL_cell_15 : decode cL_cell 15 = .ok (.sipush 1009, 3) := by decide +kernel
theorem dL_cell_18 : decode cL_cell 18 = .ok (.iload_n 1, 1) := by decide +kernel
theorem dL_cell_19 : decode cL_cell 19 = .ok (.imul, 1) := by decide +kernel
theorem dL_cell_20 : decode cL_cell 20 = .ok (.iadd, 1) := by decide +kernel
theorem dL_cell_21 : decode cL_cell 21 = .ok (.imul, 1) := by decide +kernel
theorem dL_cell_22 : decode cL_cell 22 = .ok (.sipush 12345, 3) := by decide +kernel
theorem dL_cell_25 : decode cL_cell 25 = .ok (.iadd, 1) := by decide +kernel
theorem dL_cell_26 : decode cL_cell 26 = .ok (.istore_n 2, 1) := by decide +kernel
theorem dL_cell_27 : decode cL_cell 27 = .ok (.iload_n 2, 1) := by decide +kernel
theorem dL_cell_28 : decode cL_cell 28 = .ok (.iload_n 2, 1) := by decide +kernel
theorem dL_cell_29 : decode cL_cell 29 = .ok (.bipush 13, 2) := by decide +kernel
theorem dL_cell_31 : decode cL_cell 31 = .ok (.iushr, 1) := by decide +kernel
theorem dL_cell_32 : decode cL_cell 32 = .ok (.ixor, 1) := by decide +kernel
theorem dL_cell_33 : decode cL_cell 33 = .ok (.ldc 8, 2) := by decide +kernel
theorem dL_cell_35 : decode cL_cell 35 = .ok (.imul, 1) := by decide +kernel
theorem dL_cell_36 : decode cL_cell 36 = .ok (.istore_n 2, 1) := by decide +kernel
theorem dL_cell_37 : decode cL_cell 37 = .ok (.iload_n 2, 1) := by decide +kernel
theorem dL_cell_38 : decode cL_cell 38 = .ok (.iload_n 2, 1) := by decide +kernel
theorem dL_cell_39 : decode cL_cell 39 = .ok (.bipush 16, 2) := by decide +kernel
theorem dL_cell_41 : decode cL_cell 41 = .ok (.iushr, 1) := by decide +kernel
theorem dL_cell_42 : decode cL_cell 42 = .ok (.ixor, 1) := by decide +kernel
theorem dL_cell_43 : decode cL_cell 43 = .ok (.ireturn, 1) := by decide +kernel
theorem dL_pick_0 : decode cL_pick 0 = .ok (.aload_n 0, 1) := by decide +kernel
theorem dL_pick_1 : decode cL_pick 1 = .ok (.iload_n 1, 1) := by decide +kernel
theorem dL_pick_2 : decode cL_pick 2 = .ok (.invokestatic 9, 3) := by decide +kernel
theorem dL_pick_5 : decode cL_pick 5 = .ok (.bipush 8, 2) := by decide +kernel
theorem dL_pick_7 : decode cL_pick 7 = .ok (.iushr, 1) := by decide +kernel
theorem dL_pick_8 : decode cL_pick 8 = .ok (.iload_n 2, 1) := by decide +kernel
theorem dL_pick_9 : decode cL_pick 9 = .ok (.irem, 1) := by decide +kernel
theorem dL_pick_10 : decode cL_pick 10 = .ok (.ireturn, 1) := by decide +kernel
theorem dL_lay_0 : decode cL_lay 0 = .ok (.iconst 0, 1) := by decide +kernel
theorem dL_lay_1 : decode cL_lay 1 = .ok (.istore_n 2, 1) := by decide +kernel
theorem dL_lay_2 : decode cL_lay 2 = .ok (.iconst 0, 1) := by decide +kernel
theorem dL_lay_3 : decode cL_lay 3 = .ok (.istore_n 3, 1) := by decide +kernel
theorem dL_lay_4 : decode cL_lay 4 = .ok (.iload_n 3, 1) := by decide +kernel
theorem dL_lay_5 : decode cL_lay 5 = .ok (.iconst 2, 1) := by decide +kernel
theorem dL_lay_6 : decode cL_lay 6 = .ok (.aload_n 1, 1) := by decide +kernel
theorem dL_lay_7 : decode cL_lay 7 = .ok (.iconst 0, 1) := by decide +kernel
theorem dL_lay_8 : decode cL_lay 8 = .ok (.iconst 3, 1) := by decide +kernel
theorem dL_lay_9 : decode cL_lay 9 = .ok (.invokestatic 15, 3) := by decide +kernel
theorem dL_lay_12 : decode cL_lay 12 = .ok (.iadd, 1) := by decide +kernel
theorem dL_lay_13 : decode cL_lay 13 = .ok (.if_icmp .ge 47, 3) := by decide +kernel
theorem dL_lay_16 : decode cL_lay 16 = .ok (.aload_n 0, 1) := by decide +kernel
theorem dL_lay_17 : decode cL_lay 17 = .ok (.aload_n 1, 1) := by decide +kernel
theorem dL_lay_18 : decode cL_lay 18 = .ok (.iconst 1, 1) := by decide +kernel
theorem dL_lay_19 : decode cL_lay 19 = .ok (.iload_n 3, 1) := by decide +kernel
theorem dL_lay_20 : decode cL_lay 20 = .ok (.iadd, 1) := by decide +kernel
theorem dL_lay_21 : decode cL_lay 21 = .ok (.bipush 10, 2) := by decide +kernel
theorem dL_lay_23 : decode cL_lay 23 = .ok (.invokestatic 15, 3) := by decide +kernel
theorem dL_lay_26 : decode cL_lay 26 = .ok (.aload_n 1, 1) := by decide +kernel
theorem dL_lay_27 : decode cL_lay 27 = .ok (.bipush 6, 2) := by decide +kernel
theorem dL_lay_29 : decode cL_lay 29 = .ok (.iload_n 3, 1) := by decide +kernel
theorem dL_lay_30 : decode cL_lay 30 = .ok (.iadd, 1) := by decide +kernel
theorem dL_lay_31 : decode cL_lay 31 = .ok (.iconst 3, 1) := by decide +kernel
theorem dL_lay_32 : decode cL_lay 32 = .ok (.invokestatic 15, 3) := by decide +kernel
theorem dL_lay_35 : decode cL_lay 35 = .ok (.invokevirtual 19, 3) := by decide +kernel
theorem dL_lay_38 : decode cL_lay 38 = .ok (.aload_n 0, 1) := by decide +kernel
theorem dL_lay_39 : decode cL_lay 39 = .ok (.iload_n 3, 1) := by decide +kernel
theorem dL_lay_40 : decode cL_lay 40 = .ok (.aload_n 1, 1) := by decide +kernel
theorem dL_lay_41 : decode cL_lay 41 = .ok (.bipush 11, 2) := by decide +kernel
theorem dL_lay_43 : decode cL_lay 43 = .ok (.iload_n 3, 1) := by decide +kernel
theorem dL_lay_44 : decode cL_lay 44 = .ok (.iadd, 1) := by decide +kernel
theorem dL_lay_45 : decode cL_lay 45 = .ok (.iconst 5, 1) := by decide +kernel
theorem dL_lay_46 : decode cL_lay 46 = .ok (.invokestatic 15, 3) := by decide +kernel
theorem dL_lay_49 : decode cL_lay 49 = .ok (.invokevirtual 25, 3) := by decide +kernel
theorem dL_lay_52 : decode cL_lay 52 = .ok (.iadd, 1) := by decide +kernel
theorem dL_lay_53 : decode cL_lay 53 = .ok (.istore_n 2, 1) := by decide +kernel
theorem dL_lay_54 : decode cL_lay 54 = .ok (.iinc 3 1, 3) := by decide +kernel
theorem dL_lay_57 : decode cL_lay 57 = .ok (.goto (-53), 3) := by decide +kernel
theorem dL_lay_60 : decode cL_lay 60 = .ok (.iconst 0, 1) := by decide +kernel
theorem dL_lay_61 : decode cL_lay 61 = .ok (.istore_n 3, 1) := by decide +kernel
theorem dL_lay_62 : decode cL_lay 62 = .ok (.iload_n 3, 1) := by decide +kernel
theorem dL_lay_63 : decode cL_lay 63 = .ok (.iconst 1, 1) := by decide +kernel
theorem dL_lay_64 : decode cL_lay 64 = .ok (.aload_n 1, 1) := by decide +kernel
theorem dL_lay_65 : decode cL_lay 65 = .ok (.bipush 16, 2) := by decide +kernel
theorem dL_lay_67 : decode cL_lay 67 = .ok (.iconst 3, 1) := by decide +kernel
theorem dL_lay_68 : decode cL_lay 68 = .ok (.invokestatic 15, 3) := by decide +kernel
theorem dL_lay_71 : decode cL_lay 71 = .ok (.iadd, 1) := by decide +kernel
theorem dL_lay_72 : decode cL_lay 72 = .ok (.if_icmp .ge 26, 3) := by decide +kernel
theorem dL_lay_75 : decode cL_lay 75 = .ok (.aload_n 0, 1) := by decide +kernel
theorem dL_lay_76 : decode cL_lay 76 = .ok (.iconst 1, 1) := by decide +kernel
theorem dL_lay_77 : decode cL_lay 77 = .ok (.aload_n 1, 1) := by decide +kernel
theorem dL_lay_78 : decode cL_lay 78 = .ok (.bipush 17, 2) := by decide +kernel
theorem dL_lay_80 : decode cL_lay 80 = .ok (.iload_n 3, 1) := by decide +kernel
theorem dL_lay_81 : decode cL_lay 81 = .ok (.iadd, 1) := by decide +kernel
theorem dL_lay_82 : decode cL_lay 82 = .ok (.bipush 9, 2) := by decide +kernel
theorem dL_lay_84 : decode cL_lay 84 = .ok (.invokestatic 15, 3) := by decide +kernel
theorem dL_lay_87 : decode cL_lay 87 = .ok (.iadd, 1) := by decide +kernel
theorem dL_lay_88 : decode cL_lay 88 = .ok (.invokevirtual 28, 3) := by decide +kernel
theorem dL_lay_91 : decode cL_lay 91 = .ok (.istore_n 2, 1) := by decide +kernel
theorem dL_lay_92 : decode cL_lay 92 = .ok (.iinc 3 1, 3) := by decide +kernel
theorem dL_lay_95 : decode cL_lay 95 = .ok (.goto (-33), 3) := by decide +kernel
theorem dL_lay_98 : decode cL_lay 98 = .ok (.aload_n 0, 1) := by decide +kernel
theorem dL_lay_99 : decode cL_lay 99 = .ok (.bipush 7, 2) := by decide +kernel
theorem dL_lay_101 : decode cL_lay 101 = .ok (.aload_n 1, 1) := by decide +kernel
theorem dL_lay_102 : decode cL_lay 102 = .ok (.bipush 20, 2) := by decide +kernel
theorem dL_lay_104 : decode cL_lay 104 = .ok (.bipush 8, 2) := by decide +kernel
theorem dL_lay_106 : decode cL_lay 106 = .ok (.invokestatic 15, 3) := by decide +kernel
theorem dL_lay_109 : decode cL_lay 109 = .ok (.iadd, 1) := by decide +kernel
theorem dL_lay_110 : decode cL_lay 110 = .ok (.invokevirtual 32, 3) := by decide +kernel
theorem dL_lay_113 : decode cL_lay 113 = .ok (.aload_n 0, 1) := by decide +kernel
theorem dL_lay_114 : decode cL_lay 114 = .ok (.iconst 5, 1) := by decide +kernel
theorem dL_lay_115 : decode cL_lay 115 = .ok (.aload_n 1, 1) := by decide +kernel
theorem dL_lay_116 : decode cL_lay 116 = .ok (.bipush 21, 2) := by decide +kernel
theorem dL_lay_118 : decode cL_lay 118 = .ok (.bipush 25, 2) := by decide +kernel
theorem dL_lay_120 : decode cL_lay 120 = .ok (.invokestatic 15, 3) := by decide +kernel
theorem dL_lay_123 : decode cL_lay 123 = .ok (.iadd, 1) := by decide +kernel
theorem dL_lay_124 : decode cL_lay 124 = .ok (.invokevirtual 35, 3) := by decide +kernel
theorem dL_lay_127 : decode cL_lay 127 = .ok (.iadd, 1) := by decide +kernel
theorem dL_lay_128 : decode cL_lay 128 = .ok (.istore_n 2, 1) := by decide +kernel
theorem dL_lay_129 : decode cL_lay 129 = .ok (.aload_n 0, 1) := by decide +kernel
theorem dL_lay_130 : decode cL_lay 130 = .ok (.iconst 1, 1) := by decide +kernel
theorem dL_lay_131 : decode cL_lay 131 = .ok (.aload_n 1, 1) := by decide +kernel
theorem dL_lay_132 : decode cL_lay 132 = .ok (.bipush 22, 2) := by decide +kernel
theorem dL_lay_134 : decode cL_lay 134 = .ok (.aload_n 0, 1) := by decide +kernel
theorem dL_lay_135 : decode cL_lay 135 = .ok (.iconst 1, 1) := by decide +kernel
theorem dL_lay_136 : decode cL_lay 136 = .ok (.invokevirtual 38, 3) := by decide +kernel
theorem dL_lay_139 : decode cL_lay 139 = .ok (.invokestatic 15, 3) := by decide +kernel
theorem dL_lay_142 : decode cL_lay 142 = .ok (.iadd, 1) := by decide +kernel
theorem dL_lay_143 : decode cL_lay 143 = .ok (.invokevirtual 41, 3) := by decide +kernel
theorem dL_lay_146 : decode cL_lay 146 = .ok (.istore_n 2, 1) := by decide +kernel
theorem dL_lay_147 : decode cL_lay 147 = .ok (.return_, 1) := by decide +kernel
theorem dL_done_0 : decode cL_done 0 = .ok (.aload_n 1, 1) := by decide +kernel
theorem dL_done_1 : decode cL_done 1 = .ok (.iload_n 2, 1) := by decide +kernel
theorem dL_done_2 : decode cL_done 2 = .ok (.iconst 1, 1) := by decide +kernel
theorem dL_done_3 : decode cL_done 3 = .ok (.iadd, 1) := by decide +kernel
theorem dL_done_4 : decode cL_done 4 = .ok (.aload_n 0, 1) := by decide +kernel
theorem dL_done_5 : decode cL_done 5 = .ok (.iconst 2, 1) := by decide +kernel
theorem dL_done_6 : decode cL_done 6 = .ok (.invokevirtual 38, 3) := by decide +kernel
theorem dL_done_9 : decode cL_done 9 = .ok (.invokestatic 15, 3) := by decide +kernel
theorem dL_done_12 : decode cL_done 12 = .ok (.istore 4, 2) := by decide +kernel
theorem dL_done_14 : decode cL_done 14 = .ok (.aload_n 1, 1) := by decide +kernel
theorem dL_done_15 : decode cL_done 15 = .ok (.iload_n 2, 1) := by decide +kernel
theorem dL_done_16 : decode cL_done 16 = .ok (.iconst 2, 1) := by decide +kernel
theorem dL_done_17 : decode cL_done 17 = .ok (.iadd, 1) := by decide +kernel
theorem dL_done_18 : decode cL_done 18 = .ok (.aload_n 0, 1) := by decide +kernel
theorem dL_done_19 : decode cL_done 19 = .ok (.iconst 1, 1) := by decide +kernel
theorem dL_done_20 : decode cL_done 20 = .ok (.invokevirtual 38, 3) := by decide +kernel
theorem dL_done_23 : decode cL_done 23 = .ok (.invokestatic 15, 3) := by decide +kernel
theorem dL_done_26 : decode cL_done 26 = .ok (.istore 5, 2) := by decide +kernel
theorem dL_done_28 : decode cL_done 28 = .ok (.iload_n 3, 1) := by decide +kernel
theorem dL_done_29 : decode cL_done 29 = .ok (.tableswitch 238 0 18 #[91, 91, 91, 110, 110, 126, 126, 126, 126, 126, 143, 143, 148, 163, 170, 170, 188, 201, 216], 91) := by decide +kernel
theorem dL_done_120 : decode cL_done 120 = .ok (.aload_n 0, 1) := by decide +kernel
theorem dL_done_121 : decode cL_done 121 = .ok (.aload_n 1, 1) := by decide +kernel
theorem dL_done_122 : decode cL_done 122 = .ok (.iload_n 2, 1) := by decide +kernel
theorem dL_done_123 : decode cL_done 123 = .ok (.iconst 1, 1) := by decide +kernel
theorem dL_done_124 : decode cL_done 124 = .ok (.iadd, 1) := by decide +kernel
theorem dL_done_125 : decode cL_done 125 = .ok (.aload_n 0, 1) := by decide +kernel
theorem dL_done_126 : decode cL_done 126 = .ok (.iconst 1, 1) := by decide +kernel
theorem dL_done_127 : decode cL_done 127 = .ok (.invokevirtual 38, 3) := by decide +kernel
theorem dL_done_130 : decode cL_done 130 = .ok (.iconst 1, 1) := by decide +kernel
theorem dL_done_131 : decode cL_done 131 = .ok (.iadd, 1) := by decide +kernel
theorem dL_done_132 : decode cL_done 132 = .ok (.invokestatic 15, 3) := by decide +kernel
theorem dL_done_135 : decode cL_done 135 = .ok (.invokevirtual 41, 3) := by decide +kernel
theorem dL_done_138 : decode cL_done 138 = .ok (.ireturn, 1) := by decide +kernel
theorem dL_done_139 : decode cL_done 139 = .ok (.aload_n 0, 1) := by decide +kernel
theorem dL_done_140 : decode cL_done 140 = .ok (.iconst 1, 1) := by decide +kernel
theorem dL_done_141 : decode cL_done 141 = .ok (.aload_n 1, 1) := by decide +kernel
theorem dL_done_142 : decode cL_done 142 = .ok (.iload_n 2, 1) := by decide +kernel
theorem dL_done_143 : decode cL_done 143 = .ok (.iconst 2, 1) := by decide +kernel
theorem dL_done_144 : decode cL_done 144 = .ok (.iadd, 1) := by decide +kernel
theorem dL_done_145 : decode cL_done 145 = .ok (.bipush 20, 2) := by decide +kernel
theorem dL_done_147 : decode cL_done 147 = .ok (.invokestatic 15, 3) := by decide +kernel
theorem dL_done_150 : decode cL_done 150 = .ok (.iadd, 1) := by decide +kernel
theorem dL_done_151 : decode cL_done 151 = .ok (.invokevirtual 35, 3) := by decide +kernel
theorem dL_done_154 : decode cL_done 154 = .ok (.ireturn, 1) := by decide +kernel
theorem dL_done_155 : decode cL_done 155 = .ok (.aload_n 0, 1) := by decide +kernel
theorem dL_done_156 : decode cL_done 156 = .ok (.iload 4, 2) := by decide +kernel
theorem dL_done_158 : decode cL_done 158 = .ok (.iconst 1, 1) := by decide +kernel
theorem dL_done_159 : decode cL_done 159 = .ok (.aload_n 1, 1) := by decide +kernel
theorem dL_done_160 : decode cL_done 160 = .ok (.iload_n 2, 1) := by decide +kernel
theorem dL_done_161 : decode cL_done 161 = .ok (.iconst 2, 1) := by decide +kernel
theorem dL_done_162 : decode cL_done 162 = .ok (.iadd, 1) := by decide +kernel
theorem dL_done_163 : decode cL_done 163 = .ok (.iconst 4, 1) := by decide +kernel
theorem dL_done_164 : decode cL_done 164 = .ok (.invokestatic 15, 3) := by decide +kernel
theorem dL_done_167 : decode cL_done 167 = .ok (.iadd, 1) := by decide +kernel
theorem dL_done_168 : decode cL_done 168 = .ok (.invokevirtual 44, 3) := by decide +kernel
theorem dL_done_171 : decode cL_done 171 = .ok (.ireturn, 1) := by decide +kernel
theorem dL_done_172 : decode cL_done 172 = .ok (.aload_n 0, 1) := by decide +kernel
theorem dL_done_173 : decode cL_done 173 = .ok (.invokevirtual 47, 3) := by decide +kernel
theorem dL_done_176 : decode cL_done 176 = .ok (.ireturn, 1) := by decide +kernel
theorem dL_done_177 : decode cL_done 177 = .ok (.aload_n 0, 1) := by decide +kernel
theorem dL_done_178 : decode cL_done 178 = .ok (.iconst 1, 1) := by decide +kernel
theorem dL_done_179 : decode cL_done 179 = .ok (.aload_n 1, 1) := by decide +kernel
theorem dL_done_180 : decode cL_done 180 = .ok (.iload_n 2, 1) := by decide +kernel
theorem dL_done_181 : decode cL_done 181 = .ok (.iconst 2, 1) := by decide +kernel
theorem dL_done_182 : decode cL_done 182 = .ok (.iadd, 1) := by decide +kernel
theorem dL_done_183 : decode cL_done 183 = .ok (.iconst 3, 1) := by decide +kernel
theorem dL_done_184 : decode cL_done 184 = .ok (.invokestatic 15, 3) := by decide +kernel
theorem dL_done_187 : decode cL_done 187 = .ok (.iadd, 1) := by decide +kernel
theorem dL_done_188 : decode cL_done 188 = .ok (.invokevirtual 51, 3) := by decide +kernel
theorem dL_done_191 : decode cL_done 191 = .ok (.ireturn, 1) := by decide +kernel
theorem dL_done_192 : decode cL_done 192 = .ok (.aload_n 0, 1) := by decide +kernel
theorem dL_done_193 : decode cL_done 193 = .ok (.iload 4, 2) := by decide +kernel
theorem dL_done_195 : decode cL_done 195 = .ok (.invokevirtual 54, 3) := by decide +kernel
theorem dL_done_198 : decode cL_done 198 = .ok (.ireturn, 1) := by decide +kernel
theorem dL_done_199 : decode cL_done 199 = .ok (.aload_n 0, 1) := by decide +kernel
theorem dL_done_200 : decode cL_done 200 = .ok (.iload 5, 2) := by decide +kernel
theorem dL_done_202 : decode cL_done 202 = .ok (.iconst 1, 1) := by decide +kernel
theorem dL_done_203 : decode cL_done 203 = .ok (.aload_n 1, 1) := by decide +kernel
theorem dL_done_204 : decode cL_done 204 = .ok (.iload_n 2, 1) := by decide +kernel
theorem dL_done_205 : decode cL_done 205 = .ok (.iconst 3, 1) := by decide +kernel
theorem dL_done_206 : decode cL_done 206 = .ok (.iadd, 1) := by decide +kernel
theorem dL_done_207 : decode cL_done 207 = .ok (.bipush 12, 2) := by decide +kernel
theorem dL_done_209 : decode cL_done 209 = .ok (.invokestatic 15, 3) := by decide +kernel
theorem dL_done_212 : decode cL_done 212 = .ok (.iadd, 1) := by decide +kernel
theorem dL_done_213 : decode cL_done 213 = .ok (.invokevirtual 57, 3) := by decide +kernel
theorem dL_done_216 : decode cL_done 216 = .ok (.ireturn, 1) := by decide +kernel
theorem dL_done_217 : decode cL_done 217 = .ok (.aload_n 0, 1) := by decide +kernel
theorem dL_done_218 : decode cL_done 218 = .ok (.aload_n 1, 1) := by decide +kernel
theorem dL_done_219 : decode cL_done 219 = .ok (.iload_n 2, 1) := by decide +kernel
theorem dL_done_220 : decode cL_done 220 = .ok (.iconst 1, 1) := by decide +kernel
theorem dL_done_221 : decode cL_done 221 = .ok (.iadd, 1) := by decide +kernel
theorem dL_done_222 : decode cL_done 222 = .ok (.iconst 4, 1) := by decide +kernel
theorem dL_done_223 : decode cL_done 223 = .ok (.invokestatic 15, 3) := by decide +kernel
theorem dL_done_226 : decode cL_done 226 = .ok (.invokevirtual 60, 3) := by decide +kernel
theorem dL_done_229 : decode cL_done 229 = .ok (.ireturn, 1) := by decide +kernel
theorem dL_done_230 : decode cL_done 230 = .ok (.aload_n 0, 1) := by decide +kernel
theorem dL_done_231 : decode cL_done 231 = .ok (.iload 5, 2) := by decide +kernel
theorem dL_done_233 : decode cL_done 233 = .ok (.aload_n 1, 1) := by decide +kernel
theorem dL_done_234 : decode cL_done 234 = .ok (.iload_n 2, 1) := by decide +kernel
theorem dL_done_235 : decode cL_done 235 = .ok (.iconst 3, 1) := by decide +kernel
theorem dL_done_236 : decode cL_done 236 = .ok (.iadd, 1) := by decide +kernel
theorem dL_done_237 : decode cL_done 237 = .ok (.iconst 5, 1) := by decide +kernel
theorem dL_done_238 : decode cL_done 238 = .ok (.invokestatic 15, 3) := by decide +kernel
theorem dL_done_241 : decode cL_done 241 = .ok (.invokevirtual 25, 3) := by decide +kernel
theorem dL_done_244 : decode cL_done 244 = .ok (.ireturn, 1) := by decide +kernel
theorem dL_done_245 : decode cL_done 245 = .ok (.aload_n 0, 1) := by decide +kernel
theorem dL_done_246 : decode cL_done 246 = .ok (.aload_n 1, 1) := by decide +kernel
theorem dL_done_247 : decode cL_done 247 = .ok (.iload_n 2, 1) := by decide +kernel
theorem dL_done_248 : decode cL_done 248 = .ok (.iconst 1, 1) := by decide +kernel
theorem dL_done_249 : decode cL_done 249 = .ok (.iadd, 1) := by decide +kernel
theorem dL_done_250 : decode cL_done 250 = .ok (.bipush 10, 2) := by decide +kernel
theorem dL_done_252 : decode cL_done 252 = .ok (.invokestatic 15, 3) := by decide +kernel
theorem dL_done_255 : decode cL_done 255 = .ok (.aload_n 1, 1) := by decide +kernel
theorem dL_done_256 : decode cL_done 256 = .ok (.iload_n 2, 1) := by decide +kernel
theorem dL_done_257 : decode cL_done 257 = .ok (.iconst 2, 1) := by decide +kernel
theorem dL_done_258 : decode cL_done 258 = .ok (.iadd, 1) := by decide +kernel
theorem dL_done_259 : decode cL_done 259 = .ok (.iconst 3, 1) := by decide +kernel
theorem dL_done_260 : decode cL_done 260 = .ok (.invokestatic 15, 3) := by decide +kernel
theorem dL_done_263 : decode cL_done 263 = .ok (.invokevirtual 19, 3) := by decide +kernel
theorem dL_done_266 : decode cL_done 266 = .ok (.ireturn, 1) := by decide +kernel
theorem dL_done_267 : decode cL_done 267 = .ok (.aload_n 0, 1) := by decide +kernel
theorem dL_done_268 : decode cL_done 268 = .ok (.iconst 1, 1) := by decide +kernel
theorem dL_done_269 : decode cL_done 269 = .ok (.aload_n 1, 1) := by decide +kernel
theorem dL_done_270 : decode cL_done 270 = .ok (.iload_n 2, 1) := by decide +kernel
theorem dL_done_271 : decode cL_done 271 = .ok (.iconst 1, 1) := by decide +kernel
theorem dL_done_272 : decode cL_done 272 = .ok (.iadd, 1) := by decide +kernel
theorem dL_done_273 : decode cL_done 273 = .ok (.bipush 8, 2) := by decide +kernel
theorem dL_done_275 : decode cL_done 275 = .ok (.invokestatic 15, 3) := by decide +kernel
theorem dL_done_278 : decode cL_done 278 = .ok (.iadd, 1) := by decide +kernel
theorem dL_done_279 : decode cL_done 279 = .ok (.invokevirtual 32, 3) := by decide +kernel
theorem dL_done_282 : decode cL_done 282 = .ok (.ireturn, 1) := by decide +kernel
theorem dL_acts_0 : decode cL_acts 0 = .ok (.aload_n 0, 1) := by decide +kernel
theorem dL_acts_1 : decode cL_acts 1 = .ok (.aload_n 1, 1) := by decide +kernel
theorem dL_acts_2 : decode cL_acts 2 = .ok (.iload_n 2, 1) := by decide +kernel
theorem dL_acts_3 : decode cL_acts 3 = .ok (.iload_n 3, 1) := by decide +kernel
theorem dL_acts_4 : decode cL_acts 4 = .ok (.invokestatic 63, 3) := by decide +kernel
theorem dL_acts_7 : decode cL_acts 7 = .ok (.ireturn, 1) := by decide +kernel
theorem dL_acts_8 : decode cL_acts 8 = .ok (.astore 4, 2) := by decide +kernel
theorem dL_acts_10 : decode cL_acts 10 = .ok (.bipush (-9), 2) := by decide +kernel
theorem dL_acts_12 : decode cL_acts 12 = .ok (.ireturn, 1) := by decide +kernel
theorem dL_sum_0 : decode cL_sum 0 = .ok (.iconst 0, 1) := by decide +kernel
theorem dL_sum_1 : decode cL_sum 1 = .ok (.istore_n 2, 1) := by decide +kernel
theorem dL_sum_2 : decode cL_sum 2 = .ok (.iconst 0, 1) := by decide +kernel
theorem dL_sum_3 : decode cL_sum 3 = .ok (.istore_n 3, 1) := by decide +kernel
theorem dL_sum_4 : decode cL_sum 4 = .ok (.iload_n 3, 1) := by decide +kernel
theorem dL_sum_5 : decode cL_sum 5 = .ok (.aload_n 0, 1) := by decide +kernel
theorem dL_sum_6 : decode cL_sum 6 = .ok (.iconst 1, 1) := by decide +kernel
theorem dL_sum_7 : decode cL_sum 7 = .ok (.invokevirtual 38, 3) := by decide +kernel
theorem dL_sum_10 : decode cL_sum 10 = .ok (.if_icmp .ge 18, 3) := by decide +kernel
theorem dL_sum_13 : decode cL_sum 13 = .ok (.iload_n 2, 1) := by decide +kernel
theorem dL_sum_14 : decode cL_sum 14 = .ok (.aload_n 0, 1) := by decide +kernel
theorem dL_sum_15 : decode cL_sum 15 = .ok (.iload_n 3, 1) := by decide +kernel
theorem dL_sum_16 : decode cL_sum 16 = .ok (.iload_n 1, 1) := by decide +kernel
theorem dL_sum_17 : decode cL_sum 17 = .ok (.invokevirtual 72, 3) := by decide +kernel
theorem dL_sum_20 : decode cL_sum 20 = .ok (.iadd, 1) := by decide +kernel
theorem dL_sum_21 : decode cL_sum 21 = .ok (.istore_n 2, 1) := by decide +kernel
theorem dL_sum_22 : decode cL_sum 22 = .ok (.iinc 3 1, 3) := by decide +kernel
theorem dL_sum_25 : decode cL_sum 25 = .ok (.goto (-21), 3) := by decide +kernel
theorem dL_sum_28 : decode cL_sum 28 = .ok (.iload_n 2, 1) := by decide +kernel
theorem dL_sum_29 : decode cL_sum 29 = .ok (.ireturn, 1) := by decide +kernel
theorem dL_areSacksRight_0 : decode cL_areSacksRight 0 = .ok (.iconst 0, 1) := by decide +kernel
theorem dL_areSacksRight_1 : decode cL_areSacksRight 1 = .ok (.istore_n 1, 1) := by decide +kernel
theorem dL_areSacksRight_2 : decode cL_areSacksRight 2 = .ok (.iconst 1, 1) := by decide +kernel
theorem dL_areSacksRight_3 : decode cL_areSacksRight 3 = .ok (.istore_n 2, 1) := by decide +kernel
theorem dL_areSacksRight_4 : decode cL_areSacksRight 4 = .ok (.iconst 0, 1) := by decide +kernel
theorem dL_areSacksRight_5 : decode cL_areSacksRight 5 = .ok (.istore_n 3, 1) := by decide +kernel
theorem dL_areSacksRight_6 : decode cL_areSacksRight 6 = .ok (.iload_n 3, 1) := by decide +kernel
theorem dL_areSacksRight_7 : decode cL_areSacksRight 7 = .ok (.aload_n 0, 1) := by decide +kernel
theorem dL_areSacksRight_8 : decode cL_areSacksRight 8 = .ok (.iconst 2, 1) := by decide +kernel
theorem dL_areSacksRight_9 : decode cL_areSacksRight 9 = .ok (.invokevirtual 38, 3) := by decide +kernel
theorem dL_areSacksRight_12 : decode cL_areSacksRight 12 = .ok (.if_icmp .ge 68, 3) := by decide +kernel
theorem dL_areSacksRight_15 : decode cL_areSacksRight 15 = .ok (.iload_n 1, 1) := by decide +kernel
theorem dL_areSacksRight_16 : decode cL_areSacksRight 16 = .ok (.aload_n 0, 1) := by decide +kernel
theorem dL_areSacksRight_17 : decode cL_areSacksRight 17 = .ok (.iload_n 3, 1) := by decide +kernel
theorem dL_areSacksRight_18 : decode cL_areSacksRight 18 = .ok (.iconst 3, 1) := by decide +kernel
theorem dL_areSacksRight_19 : decode cL_areSacksRight 19 = .ok (.invokevirtual 75, 3) := by decide +kernel
theorem dL_areSacksRight_22 : decode cL_areSacksRight 22 = .ok (.iadd, 1) := by decide +kernel
theorem dL_areSacksRight_23 : decode cL_areSacksRight 23 = .ok (.istore_n 1, 1) := by decide +kernel
theorem dL_areSacksRight_24 : decode cL_areSacksRight 24 = .ok (.iload_n 2, 1) := by decide +kernel
theorem dL_areSacksRight_25 : decode cL_areSacksRight 25 = .ok (.ifCond .eq 47, 3) := by decide +kernel
theorem dL_areSacksRight_28 : decode cL_areSacksRight 28 = .ok (.aload_n 0, 1) := by decide +kernel
theorem dL_areSacksRight_29 : decode cL_areSacksRight 29 = .ok (.iload_n 3, 1) := by decide +kernel
theorem dL_areSacksRight_30 : decode cL_areSacksRight 30 = .ok (.iconst 1, 1) := by decide +kernel
theorem dL_areSacksRight_31 : decode cL_areSacksRight 31 = .ok (.invokevirtual 75, 3) := by decide +kernel
theorem dL_areSacksRight_34 : decode cL_areSacksRight 34 = .ok (.ifCond .lt 38, 3) := by decide +kernel
theorem dL_areSacksRight_37 : decode cL_areSacksRight 37 = .ok (.aload_n 0, 1) := by decide +kernel
theorem dL_areSacksRight_38 : decode cL_areSacksRight 38 = .ok (.iload_n 3, 1) := by decide +kernel
theorem dL_areSacksRight_39 : decode cL_areSacksRight 39 = .ok (.iconst 1, 1) := by decide +kernel
theorem dL_areSacksRight_40 : decode cL_areSacksRight 40 = .ok (.invokevirtual 75, 3) := by decide +kernel
theorem dL_areSacksRight_43 : decode cL_areSacksRight 43 = .ok (.bipush 30, 2) := by decide +kernel
theorem dL_areSacksRight_45 : decode cL_areSacksRight 45 = .ok (.if_icmp .gt 27, 3) := by decide +kernel
theorem dL_areSacksRight_48 : decode cL_areSacksRight 48 = .ok (.aload_n 0, 1) := by decide +kernel
theorem dL_areSacksRight_49 : decode cL_areSacksRight 49 = .ok (.iload_n 3, 1) := by decide +kernel
theorem dL_areSacksRight_50 : decode cL_areSacksRight 50 = .ok (.iconst 2, 1) := by decide +kernel
theorem dL_areSacksRight_51 : decode cL_areSacksRight 51 = .ok (.invokevirtual 75, 3) := by decide +kernel
theorem dL_areSacksRight_54 : decode cL_areSacksRight 54 = .ok (.ifCond .lt 18, 3) := by decide +kernel
theorem dL_areSacksRight_57 : decode cL_areSacksRight 57 = .ok (.aload_n 0, 1) := by decide +kernel
theorem dL_areSacksRight_58 : decode cL_areSacksRight 58 = .ok (.iload_n 3, 1) := by decide +kernel
theorem dL_areSacksRight_59 : decode cL_areSacksRight 59 = .ok (.iconst 2, 1) := by decide +kernel
theorem dL_areSacksRight_60 : decode cL_areSacksRight 60 = .ok (.invokevirtual 75, 3) := by decide +kernel
theorem dL_areSacksRight_63 : decode cL_areSacksRight 63 = .ok (.bipush 9, 2) := by decide +kernel
theorem dL_areSacksRight_65 : decode cL_areSacksRight 65 = .ok (.if_icmp .gt 7, 3) := by decide +kernel
theorem dL_areSacksRight_68 : decode cL_areSacksRight 68 = .ok (.iconst 1, 1) := by decide +kernel
theorem dL_areSacksRight_69 : decode cL_areSacksRight 69 = .ok (.goto 4, 3) := by decide +kernel
theorem dL_areSacksRight_72 : decode cL_areSacksRight 72 = .ok (.iconst 0, 1) := by decide +kernel
theorem dL_areSacksRight_73 : decode cL_areSacksRight 73 = .ok (.istore_n 2, 1) := by decide +kernel
theorem dL_areSacksRight_74 : decode cL_areSacksRight 74 = .ok (.iinc 3 1, 3) := by decide +kernel
theorem dL_areSacksRight_77 : decode cL_areSacksRight 77 = .ok (.goto (-71), 3) := by decide +kernel
theorem dL_areSacksRight_80 : decode cL_areSacksRight 80 = .ok (.iload_n 2, 1) := by decide +kernel
theorem dL_areSacksRight_81 : decode cL_areSacksRight 81 = .ok (.ifCond .eq 69, 3) := by decide +kernel
theorem dL_areSacksRight_84 : decode cL_areSacksRight 84 = .ok (.iload_n 1, 1) := by decide +kernel
theorem dL_areSacksRight_85 : decode cL_areSacksRight 85 = .ok (.aload_n 0, 1) := by decide +kernel
theorem dL_areSacksRight_86 : decode cL_areSacksRight 86 = .ok (.invokevirtual 81, 3) := by decide +kernel
theorem dL_areSacksRight_89 : decode cL_areSacksRight 89 = .ok (.if_icmp .ne 61, 3) := by decide +kernel
theorem dL_areSacksRight_92 : decode cL_areSacksRight 92 = .ok (.iload_n 1, 1) := by decide +kernel
theorem dL_areSacksRight_93 : decode cL_areSacksRight 93 = .ok (.aload_n 0, 1) := by decide +kernel
theorem dL_areSacksRight_94 : decode cL_areSacksRight 94 = .ok (.invokevirtual 84, 3) := by decide +kernel
theorem dL_areSacksRight_97 : decode cL_areSacksRight 97 = .ok (.if_icmp .ne 53, 3) := by decide +kernel
theorem dL_areSacksRight_100 : decode cL_areSacksRight 100 = .ok (.iload_n 1, 1) := by decide +kernel
theorem dL_areSacksRight_101 : decode cL_areSacksRight 101 = .ok (.aload_n 0, 1) := by decide +kernel
theorem dL_areSacksRight_102 : decode cL_areSacksRight 102 = .ok (.bipush 7, 2) := by decide +kernel
theorem dL_areSacksRight_104 : decode cL_areSacksRight 104 = .ok (.invokestatic 87, 3) := by decide +kernel
theorem dL_areSacksRight_107 : decode cL_areSacksRight 107 = .ok (.if_icmp .ne 43, 3) := by decide +kernel
theorem dL_areSacksRight_110 : decode cL_areSacksRight 110 = .ok (.aload_n 0, 1) := by decide +kernel
theorem dL_areSacksRight_111 : decode cL_areSacksRight 111 = .ok (.iconst 5, 1) := by decide +kernel
theorem dL_areSacksRight_112 : decode cL_areSacksRight 112 = .ok (.invokevirtual 38, 3) := by decide +kernel
theorem dL_areSacksRight_115 : decode cL_areSacksRight 115 = .ok (.aload_n 0, 1) := by decide +kernel
theorem dL_areSacksRight_116 : decode cL_areSacksRight 116 = .ok (.iconst 4, 1) := by decide +kernel
theorem dL_areSacksRight_117 : decode cL_areSacksRight 117 = .ok (.invokevirtual 38, 3) := by decide +kernel
theorem dL_areSacksRight_120 : decode cL_areSacksRight 120 = .ok (.iadd, 1) := by decide +kernel
theorem dL_areSacksRight_121 : decode cL_areSacksRight 121 = .ok (.iload_n 1, 1) := by decide +kernel
theorem dL_areSacksRight_122 : decode cL_areSacksRight 122 = .ok (.iadd, 1) := by decide +kernel
theorem dL_areSacksRight_123 : decode cL_areSacksRight 123 = .ok (.bipush 100, 2) := by decide +kernel
theorem dL_areSacksRight_125 : decode cL_areSacksRight 125 = .ok (.if_icmp .ne 25, 3) := by decide +kernel
theorem dL_areSacksRight_128 : decode cL_areSacksRight 128 = .ok (.aload_n 0, 1) := by decide +kernel
theorem dL_areSacksRight_129 : decode cL_areSacksRight 129 = .ok (.iconst 4, 1) := by decide +kernel
theorem dL_areSacksRight_130 : decode cL_areSacksRight 130 = .ok (.invokevirtual 38, 3) := by decide +kernel
theorem dL_areSacksRight_133 : decode cL_areSacksRight 133 = .ok (.ifCond .lt 17, 3) := by decide +kernel
theorem dL_areSacksRight_136 : decode cL_areSacksRight 136 = .ok (.aload_n 0, 1) := by decide +kernel
theorem dL_areSacksRight_137 : decode cL_areSacksRight 137 = .ok (.iconst 4, 1) := by decide +kernel
theorem dL_areSacksRight_138 : decode cL_areSacksRight 138 = .ok (.invokevirtual 38, 3) := by decide +kernel
theorem dL_areSacksRight_141 : decode cL_areSacksRight 141 = .ok (.bipush 30, 2) := by decide +kernel
theorem dL_areSacksRight_143 : decode cL_areSacksRight 143 = .ok (.if_icmp .gt 7, 3) := by decide +kernel
theorem dL_areSacksRight_146 : decode cL_areSacksRight 146 = .ok (.iconst 1, 1) := by decide +kernel
theorem dL_areSacksRight_147 : decode cL_areSacksRight 147 = .ok (.goto 4, 3) := by decide +kernel
theorem dL_areSacksRight_150 : decode cL_areSacksRight 150 = .ok (.iconst 0, 1) := by decide +kernel
theorem dL_areSacksRight_151 : decode cL_areSacksRight 151 = .ok (.istore_n 2, 1) := by decide +kernel
theorem dL_areSacksRight_152 : decode cL_areSacksRight 152 = .ok (.iload_n 2, 1) := by decide +kernel
theorem dL_areSacksRight_153 : decode cL_areSacksRight 153 = .ok (.ifCond .eq 86, 3) := by decide +kernel
theorem dL_areSacksRight_156 : decode cL_areSacksRight 156 = .ok (.iconst 3, 1) := by decide +kernel
theorem dL_areSacksRight_157 : decode cL_areSacksRight 157 = .ok (.iload_n 1, 1) := by decide +kernel
theorem dL_areSacksRight_158 : decode cL_areSacksRight 158 = .ok (.imul, 1) := by decide +kernel
theorem dL_areSacksRight_159 : decode cL_areSacksRight 159 = .ok (.aload_n 0, 1) := by decide +kernel
theorem dL_areSacksRight_160 : decode cL_areSacksRight 160 = .ok (.bipush 10, 2) := by decide +kernel
theorem dL_areSacksRight_162 : decode cL_areSacksRight 162 = .ok (.invokevirtual 38, 3) := by decide +kernel
theorem dL_areSacksRight_165 : decode cL_areSacksRight 165 = .ok (.aload_n 0, 1) := by decide +kernel
theorem dL_areSacksRight_166 : decode cL_areSacksRight 166 = .ok (.bipush 7, 2) := by decide +kernel
theorem dL_areSacksRight_168 : decode cL_areSacksRight 168 = .ok (.invokevirtual 38, 3) := by decide +kernel
theorem dL_areSacksRight_171 : decode cL_areSacksRight 171 = .ok (.iadd, 1) := by decide +kernel
theorem dL_areSacksRight_172 : decode cL_areSacksRight 172 = .ok (.if_icmp .ne 67, 3) := by decide +kernel
theorem dL_areSacksRight_175 : decode cL_areSacksRight 175 = .ok (.aload_n 0, 1) := by decide +kernel
theorem dL_areSacksRight_176 : decode cL_areSacksRight 176 = .ok (.bipush 6, 2) := by decide +kernel
theorem dL_areSacksRight_178 : decode cL_areSacksRight 178 = .ok (.invokevirtual 38, 3) := by decide +kernel
theorem dL_areSacksRight_181 : decode cL_areSacksRight 181 = .ok (.aload_n 0, 1) := by decide +kernel
theorem dL_areSacksRight_182 : decode cL_areSacksRight 182 = .ok (.iconst 3, 1) := by decide +kernel
theorem dL_areSacksRight_183 : decode cL_areSacksRight 183 = .ok (.invokestatic 87, 3) := by decide +kernel
theorem dL_areSacksRight_186 : decode cL_areSacksRight 186 = .ok (.if_icmp .ne 53, 3) := by decide +kernel
theorem dL_areSacksRight_189 : decode cL_areSacksRight 189 = .ok (.aload_n 0, 1) := by decide +kernel
theorem dL_areSacksRight_190 : decode cL_areSacksRight 190 = .ok (.bipush 7, 2) := by decide +kernel
theorem dL_areSacksRight_192 : decode cL_areSacksRight 192 = .ok (.invokevirtual 38, 3) := by decide +kernel
theorem dL_areSacksRight_195 : decode cL_areSacksRight 195 = .ok (.aload_n 0, 1) := by decide +kernel
theorem dL_areSacksRight_196 : decode cL_areSacksRight 196 = .ok (.iconst 4, 1) := by decide +kernel
theorem dL_areSacksRight_197 : decode cL_areSacksRight 197 = .ok (.invokestatic 87, 3) := by decide +kernel
theorem dL_areSacksRight_200 : decode cL_areSacksRight 200 = .ok (.if_icmp .ne 39, 3) := by decide +kernel
theorem dL_areSacksRight_203 : decode cL_areSacksRight 203 = .ok (.aload_n 0, 1) := by decide +kernel
theorem dL_areSacksRight_204 : decode cL_areSacksRight 204 = .ok (.bipush 8, 2) := by decide +kernel
theorem dL_areSacksRight_206 : decode cL_areSacksRight 206 = .ok (.invokevirtual 38, 3) := by decide +kernel
theorem dL_areSacksRight_209 : decode cL_areSacksRight 209 = .ok (.aload_n 0, 1) := by decide +kernel
theorem dL_areSacksRight_210 : decode cL_areSacksRight 210 = .ok (.iconst 5, 1) := by decide +kernel
theorem dL_areSacksRight_211 : decode cL_areSacksRight 211 = .ok (.invokestatic 87, 3) := by decide +kernel
theorem dL_areSacksRight_214 : decode cL_areSacksRight 214 = .ok (.if_icmp .ne 25, 3) := by decide +kernel
theorem dL_areSacksRight_217 : decode cL_areSacksRight 217 = .ok (.aload_n 0, 1) := by decide +kernel
theorem dL_areSacksRight_218 : decode cL_areSacksRight 218 = .ok (.bipush 9, 2) := by decide +kernel
theorem dL_areSacksRight_220 : decode cL_areSacksRight 220 = .ok (.invokevirtual 38, 3) := by decide +kernel
theorem dL_areSacksRight_223 : decode cL_areSacksRight 223 = .ok (.ifCond .lt 16, 3) := by decide +kernel
theorem dL_areSacksRight_226 : decode cL_areSacksRight 226 = .ok (.aload_n 0, 1) := by decide +kernel
theorem dL_areSacksRight_227 : decode cL_areSacksRight 227 = .ok (.bipush 11, 2) := by decide +kernel
theorem dL_areSacksRight_229 : decode cL_areSacksRight 229 = .ok (.invokevirtual 38, 3) := by decide +kernel
theorem dL_areSacksRight_232 : decode cL_areSacksRight 232 = .ok (.ifCond .lt 7, 3) := by decide +kernel
theorem dL_areSacksRight_235 : decode cL_areSacksRight 235 = .ok (.iconst 1, 1) := by decide +kernel
theorem dL_areSacksRight_236 : decode cL_areSacksRight 236 = .ok (.goto 4, 3) := by decide +kernel
theorem dL_areSacksRight_239 : decode cL_areSacksRight 239 = .ok (.iconst 0, 1) := by decide +kernel
theorem dL_areSacksRight_240 : decode cL_areSacksRight 240 = .ok (.istore_n 2, 1) := by decide +kernel
theorem dL_areSacksRight_241 : decode cL_areSacksRight 241 = .ok (.iload_n 2, 1) := by decide +kernel
theorem dL_areSacksRight_242 : decode cL_areSacksRight 242 = .ok (.ifCond .eq 53, 3) := by decide +kernel
theorem dL_areSacksRight_245 : decode cL_areSacksRight 245 = .ok (.aload_n 0, 1) := by decide +kernel
theorem dL_areSacksRight_246 : decode cL_areSacksRight 246 = .ok (.invokevirtual 91, 3) := by decide +kernel
theorem dL_areSacksRight_249 : decode cL_areSacksRight 249 = .ok (.aload_n 0, 1) := by decide +kernel
theorem dL_areSacksRight_250 : decode cL_areSacksRight 250 = .ok (.bipush 7, 2) := by decide +kernel
theorem dL_areSacksRight_252 : decode cL_areSacksRight 252 = .ok (.invokevirtual 38, 3) := by decide +kernel
theorem dL_areSacksRight_255 : decode cL_areSacksRight 255 = .ok (.i2f, 1) := by decide +kernel
theorem dL_areSacksRight_256 : decode cL_areSacksRight 256 = .ok (.aload_n 0, 1) := by decide +kernel
theorem dL_areSacksRight_257 : decode cL_areSacksRight 257 = .ok (.iconst 1, 1) := by decide +kernel
theorem dL_areSacksRight_258 : decode cL_areSacksRight 258 = .ok (.invokevirtual 38, 3) := by decide +kernel
theorem dL_areSacksRight_261 : decode cL_areSacksRight 261 = .ok (.i2f, 1) := by decide +kernel
theorem dL_areSacksRight_262 : decode cL_areSacksRight 262 = .ok (.fdiv, 1) := by decide +kernel
theorem dL_areSacksRight_263 : decode cL_areSacksRight 263 = .ok (.fcmp .l, 1) := by decide +kernel
theorem dL_areSacksRight_264 : decode cL_areSacksRight 264 = .ok (.ifCond .ne 31, 3) := by decide +kernel
theorem dL_areSacksRight_267 : decode cL_areSacksRight 267 = .ok (.iload_n 1, 1) := by decide +kernel
theorem dL_areSacksRight_268 : decode cL_areSacksRight 268 = .ok (.ifCond .eq 23, 3) := by decide +kernel
theorem dL_areSacksRight_271 : decode cL_areSacksRight 271 = .ok (.aload_n 0, 1) := by decide +kernel
theorem dL_areSacksRight_272 : decode cL_areSacksRight 272 = .ok (.invokevirtual 95, 3) := by decide +kernel
theorem dL_areSacksRight_275 : decode cL_areSacksRight 275 = .ok (.aload_n 0, 1) := by decide +kernel
theorem dL_areSacksRight_276 : decode cL_areSacksRight 276 = .ok (.bipush 10, 2) := by decide +kernel
theorem dL_areSacksRight_278 : decode cL_areSacksRight 278 = .ok (.invokevirtual 38, 3) := by decide +kernel
theorem dL_areSacksRight_281 : decode cL_areSacksRight 281 = .ok (.i2d, 1) := by decide +kernel
theorem dL_areSacksRight_282 : decode cL_areSacksRight 282 = .ok (.iconst 3, 1) := by decide +kernel
theorem dL_areSacksRight_283 : decode cL_areSacksRight 283 = .ok (.iload_n 1, 1) := by decide +kernel
theorem dL_areSacksRight_284 : decode cL_areSacksRight 284 = .ok (.imul, 1) := by decide +kernel
theorem dL_areSacksRight_285 : decode cL_areSacksRight 285 = .ok (.i2d, 1) := by decide +kernel
theorem dL_areSacksRight_286 : decode cL_areSacksRight 286 = .ok (.ddiv, 1) := by decide +kernel
theorem dL_areSacksRight_287 : decode cL_areSacksRight 287 = .ok (.dcmp .l, 1) := by decide +kernel
theorem dL_areSacksRight_288 : decode cL_areSacksRight 288 = .ok (.ifCond .ne 7, 3) := by decide +kernel
theorem dL_areSacksRight_291 : decode cL_areSacksRight 291 = .ok (.iconst 1, 1) := by decide +kernel
theorem dL_areSacksRight_292 : decode cL_areSacksRight 292 = .ok (.goto 4, 3) := by decide +kernel
theorem dL_areSacksRight_295 : decode cL_areSacksRight 295 = .ok (.iconst 0, 1) := by decide +kernel
theorem dL_areSacksRight_296 : decode cL_areSacksRight 296 = .ok (.ireturn, 1) := by decide +kernel
theorem dL_areHousesRight_0 : decode cL_areHousesRight 0 = .ok (.iconst 1, 1) := by decide +kernel
theorem dL_areHousesRight_1 : decode cL_areHousesRight 1 = .ok (.istore_n 1, 1) := by decide +kernel
theorem dL_areHousesRight_2 : decode cL_areHousesRight 2 = .ok (.iconst 0, 1) := by decide +kernel
theorem dL_areHousesRight_3 : decode cL_areHousesRight 3 = .ok (.istore_n 2, 1) := by decide +kernel
theorem dL_areHousesRight_4 : decode cL_areHousesRight 4 = .ok (.iload_n 2, 1) := by decide +kernel
theorem dL_areHousesRight_5 : decode cL_areHousesRight 5 = .ok (.aload_n 0, 1) := by decide +kernel
theorem dL_areHousesRight_6 : decode cL_areHousesRight 6 = .ok (.iconst 1, 1) := by decide +kernel
theorem dL_areHousesRight_7 : decode cL_areHousesRight 7 = .ok (.invokevirtual 38, 3) := by decide +kernel
theorem dL_areHousesRight_10 : decode cL_areHousesRight 10 = .ok (.if_icmp .ge 135, 3) := by decide +kernel
theorem dL_areHousesRight_13 : decode cL_areHousesRight 13 = .ok (.aload_n 0, 1) := by decide +kernel
theorem dL_areHousesRight_14 : decode cL_areHousesRight 14 = .ok (.iload_n 2, 1) := by decide +kernel
theorem dL_areHousesRight_15 : decode cL_areHousesRight 15 = .ok (.iconst 1, 1) := by decide +kernel
theorem dL_areHousesRight_16 : decode cL_areHousesRight 16 = .ok (.invokevirtual 72, 3) := by decide +kernel
theorem dL_areHousesRight_19 : decode cL_areHousesRight 19 = .ok (.istore_n 3, 1) := by decide +kernel
theorem dL_areHousesRight_20 : decode cL_areHousesRight 20 = .ok (.aload_n 0, 1) := by decide +kernel
theorem dL_areHousesRight_21 : decode cL_areHousesRight 21 = .ok (.iload_n 2, 1) := by decide +kernel
theorem dL_areHousesRight_22 : decode cL_areHousesRight 22 = .ok (.bipush 6, 2) := by decide +kernel
theorem dL_areHousesRight_24 : decode cL_areHousesRight 24 = .ok (.invokevirtual 72, 3) := by decide +kernel
theorem dL_areHousesRight_27 : decode cL_areHousesRight 27 = .ok (.istore 4, 2) := by decide +kernel
theorem dL_areHousesRight_29 : decode cL_areHousesRight 29 = .ok (.iload_n 1, 1) := by decide +kernel
theorem dL_areHousesRight_30 : decode cL_areHousesRight 30 = .ok (.ifCond .eq 107, 3) := by decide +kernel
theorem dL_areHousesRight_33 : decode cL_areHousesRight 33 = .ok (.aload_n 0, 1) := by decide +kernel
theorem dL_areHousesRight_34 : decode cL_areHousesRight 34 = .ok (.iload_n 2, 1) := by decide +kernel
theorem dL_areHousesRight_35 : decode cL_areHousesRight 35 = .ok (.iconst 3, 1) := by decide +kernel
theorem dL_areHousesRight_36 : decode cL_areHousesRight 36 = .ok (.invokevirtual 72, 3) := by decide +kernel
theorem dL_areHousesRight_39 : decode cL_areHousesRight 39 = .ok (.ifCond .lt 98, 3) := by decide +kernel
theorem dL_areHousesRight_42 : decode cL_areHousesRight 42 = .ok (.aload_n 0, 1) := by decide +kernel
theorem dL_areHousesRight_43 : decode cL_areHousesRight 43 = .ok (.iload_n 2, 1) := by decide +kernel
theorem dL_areHousesRight_44 : decode cL_areHousesRight 44 = .ok (.iconst 3, 1) := by decide +kernel
theorem dL_areHousesRight_45 : decode cL_areHousesRight 45 = .ok (.invokevirtual 72, 3) := by decide +kernel
theorem dL_areHousesRight_48 : decode cL_areHousesRight 48 = .ok (.bipush 20, 2) := by decide +kernel
theorem dL_areHousesRight_50 : decode cL_areHousesRight 50 = .ok (.if_icmp .gt 87, 3) := by decide +kernel
theorem dL_areHousesRight_53 : decode cL_areHousesRight 53 = .ok (.aload_n 0, 1) := by decide +kernel
theorem dL_areHousesRight_54 : decode cL_areHousesRight 54 = .ok (.iload_n 2, 1) := by decide +kernel
theorem dL_areHousesRight_55 : decode cL_areHousesRight 55 = .ok (.iconst 4, 1) := by decide +kernel
theorem dL_areHousesRight_56 : decode cL_areHousesRight 56 = .ok (.invokevirtual 72, 3) := by decide +kernel
theorem dL_areHousesRight_59 : decode cL_areHousesRight 59 = .ok (.ifCond .lt 78, 3) := by decide +kernel
theorem dL_areHousesRight_62 : decode cL_areHousesRight 62 = .ok (.aload_n 0, 1) := by decide +kernel
theorem dL_areHousesRight_63 : decode cL_areHousesRight 63 = .ok (.iload_n 2, 1) := by decide +kernel
theorem dL_areHousesRight_64 : decode cL_areHousesRight 64 = .ok (.iconst 5, 1) := by decide +kernel
theorem dL_areHousesRight_65 : decode cL_areHousesRight 65 = .ok (.invokevirtual 72, 3) := by decide +kernel
theorem dL_areHousesRight_68 : decode cL_areHousesRight 68 = .ok (.ifCond .lt 69, 3) := by decide +kernel
theorem dL_areHousesRight_71 : decode cL_areHousesRight 71 = .ok (.aload_n 0, 1) := by decide +kernel
theorem dL_areHousesRight_72 : decode cL_areHousesRight 72 = .ok (.iload_n 2, 1) := by decide +kernel
theorem dL_areHousesRight_73 : decode cL_areHousesRight 73 = .ok (.invokevirtual 99, 3) := by decide +kernel
theorem dL_areHousesRight_76 : decode cL_areHousesRight 76 = .ok (.iload 4, 2) := by decide +kernel
theorem dL_areHousesRight_78 : decode cL_areHousesRight 78 = .ok (.ifCond .le 7, 3) := by decide +kernel
theorem dL_areHousesRight_81 : decode cL_areHousesRight 81 = .ok (.iconst 1, 1) := by decide +kernel
theorem dL_areHousesRight_82 : decode cL_areHousesRight 82 = .ok (.goto 4, 3) := by decide +kernel
theorem dL_areHousesRight_85 : decode cL_areHousesRight 85 = .ok (.iconst 0, 1) := by decide +kernel
theorem dL_areHousesRight_86 : decode cL_areHousesRight 86 = .ok (.if_icmp .ne 51, 3) := by decide +kernel
theorem dL_areHousesRight_89 : decode cL_areHousesRight 89 = .ok (.iload 4, 2) := by decide +kernel
theorem dL_areHousesRight_91 : decode cL_areHousesRight 91 = .ok (.bipush 99, 2) := by decide +kernel
theorem dL_areHousesRight_93 : decode cL_areHousesRight 93 = .ok (.if_icmp .eq 29, 3) := by decide +kernel
theorem dL_areHousesRight_96 : decode cL_areHousesRight 96 = .ok (.iload_n 3, 1) := by decide +kernel
theorem dL_areHousesRight_97 : decode cL_areHousesRight 97 = .ok (.iconst 1, 1) := by decide +kernel
theorem dL_areHousesRight_98 : decode cL_areHousesRight 98 = .ok (.if_icmp .ne 14, 3) := by decide +kernel
theorem dL_areHousesRight_101 : decode cL_areHousesRight 101 = .ok (.iload 4, 2) := by decide +kernel
theorem dL_areHousesRight_103 : decode cL_areHousesRight 103 = .ok (.ifCond .lt 9, 3) := by decide +kernel
theorem dL_areHousesRight_106 : decode cL_areHousesRight 106 = .ok (.iload 4, 2) := by decide +kernel
theorem dL_areHousesRight_108 : decode cL_areHousesRight 108 = .ok (.iconst 2, 1) := by decide +kernel
theorem dL_areHousesRight_109 : decode cL_areHousesRight 109 = .ok (.if_icmp .le 13, 3) := by decide +kernel
theorem dL_areHousesRight_112 : decode cL_areHousesRight 112 = .ok (.iload_n 3, 1) := by decide +kernel
theorem dL_areHousesRight_113 : decode cL_areHousesRight 113 = .ok (.iconst 2, 1) := by decide +kernel
theorem dL_areHousesRight_114 : decode cL_areHousesRight 114 = .ok (.if_icmp .ne 23, 3) := by decide +kernel
theorem dL_areHousesRight_117 : decode cL_areHousesRight 117 = .ok (.iload 4, 2) := by decide +kernel
theorem dL_areHousesRight_119 : decode cL_areHousesRight 119 = .ok (.ifCond .ne 18, 3) := by decide +kernel
theorem dL_areHousesRight_122 : decode cL_areHousesRight 122 = .ok (.iload_n 3, 1) := by decide +kernel
theorem dL_areHousesRight_123 : decode cL_areHousesRight 123 = .ok (.ifCond .ne 10, 3) := by decide +kernel
theorem dL_areHousesRight_126 : decode cL_areHousesRight 126 = .ok (.iload 4, 2) := by decide +kernel
theorem dL_areHousesRight_128 : decode cL_areHousesRight 128 = .ok (.bipush 99, 2) := by decide +kernel
theorem dL_areHousesRight_130 : decode cL_areHousesRight 130 = .ok (.if_icmp .ne 7, 3) := by decide +kernel
theorem dL_areHousesRight_133 : decode cL_areHousesRight 133 = .ok (.iconst 1, 1) := by decide +kernel
theorem dL_areHousesRight_134 : decode cL_areHousesRight 134 = .ok (.goto 4, 3) := by decide +kernel
theorem dL_areHousesRight_137 : decode cL_areHousesRight 137 = .ok (.iconst 0, 1) := by decide +kernel
theorem dL_areHousesRight_138 : decode cL_areHousesRight 138 = .ok (.istore_n 1, 1) := by decide +kernel
theorem dL_areHousesRight_139 : decode cL_areHousesRight 139 = .ok (.iinc 2 1, 3) := by decide +kernel
theorem dL_areHousesRight_142 : decode cL_areHousesRight 142 = .ok (.goto (-138), 3) := by decide +kernel
theorem dL_areHousesRight_145 : decode cL_areHousesRight 145 = .ok (.iconst 0, 1) := by decide +kernel
theorem dL_areHousesRight_146 : decode cL_areHousesRight 146 = .ok (.istore_n 2, 1) := by decide +kernel
theorem dL_areHousesRight_147 : decode cL_areHousesRight 147 = .ok (.iconst 0, 1) := by decide +kernel
theorem dL_areHousesRight_148 : decode cL_areHousesRight 148 = .ok (.istore_n 3, 1) := by decide +kernel
theorem dL_areHousesRight_149 : decode cL_areHousesRight 149 = .ok (.iload_n 3, 1) := by decide +kernel
theorem dL_areHousesRight_150 : decode cL_areHousesRight 150 = .ok (.iconst 4, 1) := by decide +kernel
theorem dL_areHousesRight_151 : decode cL_areHousesRight 151 = .ok (.if_icmp .ge 55, 3) := by decide +kernel
theorem dL_areHousesRight_154 : decode cL_areHousesRight 154 = .ok (.iload_n 2, 1) := by decide +kernel
theorem dL_areHousesRight_155 : decode cL_areHousesRight 155 = .ok (.aload_n 0, 1) := by decide +kernel
theorem dL_areHousesRight_156 : decode cL_areHousesRight 156 = .ok (.iload_n 3, 1) := by decide +kernel
theorem dL_areHousesRight_157 : decode cL_areHousesRight 157 = .ok (.invokevirtual 78, 3) := by decide +kernel
theorem dL_areHousesRight_160 : decode cL_areHousesRight 160 = .ok (.bipush 20, 2) := by decide +kernel
theorem dL_areHousesRight_162 : decode cL_areHousesRight 162 = .ok (.if_icmp .ge 7, 3) := by decide +kernel
theorem dL_areHousesRight_165 : decode cL_areHousesRight 165 = .ok (.iconst 1, 1) := by decide +kernel
theorem dL_areHousesRight_166 : decode cL_areHousesRight 166 = .ok (.goto 4, 3) := by decide +kernel
theorem dL_areHousesRight_169 : decode cL_areHousesRight 169 = .ok (.iconst 0, 1) := by decide +kernel
theorem dL_areHousesRight_170 : decode cL_areHousesRight 170 = .ok (.iadd, 1) := by decide +kernel
theorem dL_areHousesRight_171 : decode cL_areHousesRight 171 = .ok (.istore_n 2, 1) := by decide +kernel
theorem dL_areHousesRight_172 : decode cL_areHousesRight 172 = .ok (.iload_n 1, 1) := by decide +kernel
theorem dL_areHousesRight_173 : decode cL_areHousesRight 173 = .ok (.ifCond .eq 25, 3) := by decide +kernel
theorem dL_areHousesRight_176 : decode cL_areHousesRight 176 = .ok (.aload_n 0, 1) := by decide +kernel
theorem dL_areHousesRight_177 : decode cL_areHousesRight 177 = .ok (.iload_n 3, 1) := by decide +kernel
theorem dL_areHousesRight_178 : decode cL_areHousesRight 178 = .ok (.invokevirtual 78, 3) := by decide +kernel
theorem dL_areHousesRight_181 : decode cL_areHousesRight 181 = .ok (.ifCond .lt 17, 3) := by decide +kernel
theorem dL_areHousesRight_184 : decode cL_areHousesRight 184 = .ok (.aload_n 0, 1) := by decide +kernel
theorem dL_areHousesRight_185 : decode cL_areHousesRight 185 = .ok (.iload_n 3, 1) := by decide +kernel
theorem dL_areHousesRight_186 : decode cL_areHousesRight 186 = .ok (.invokevirtual 78, 3) := by decide +kernel
theorem dL_areHousesRight_189 : decode cL_areHousesRight 189 = .ok (.bipush 20, 2) := by decide +kernel
theorem dL_areHousesRight_191 : decode cL_areHousesRight 191 = .ok (.if_icmp .gt 7, 3) := by decide +kernel
theorem dL_areHousesRight_194 : decode cL_areHousesRight 194 = .ok (.iconst 1, 1) := by decide +kernel
theorem dL_areHousesRight_195 : decode cL_areHousesRight 195 = .ok (.goto 4, 3) := by decide +kernel
theorem dL_areHousesRight_198 : decode cL_areHousesRight 198 = .ok (.iconst 0, 1) := by decide +kernel
theorem dL_areHousesRight_199 : decode cL_areHousesRight 199 = .ok (.istore_n 1, 1) := by decide +kernel
theorem dL_areHousesRight_200 : decode cL_areHousesRight 200 = .ok (.iinc 3 1, 3) := by decide +kernel
theorem dL_areHousesRight_203 : decode cL_areHousesRight 203 = .ok (.goto (-54), 3) := by decide +kernel
theorem dL_areHousesRight_206 : decode cL_areHousesRight 206 = .ok (.iconst 1, 1) := by decide +kernel
theorem dL_areHousesRight_207 : decode cL_areHousesRight 207 = .ok (.istore_n 3, 1) := by decide +kernel
theorem dL_areHousesRight_208 : decode cL_areHousesRight 208 = .ok (.iload_n 3, 1) := by decide +kernel
theorem dL_areHousesRight_209 : decode cL_areHousesRight 209 = .ok (.aload_n 0, 1) := by decide +kernel
theorem dL_areHousesRight_210 : decode cL_areHousesRight 210 = .ok (.iconst 1, 1) := by decide +kernel
theorem dL_areHousesRight_211 : decode cL_areHousesRight 211 = .ok (.invokevirtual 38, 3) := by decide +kernel
theorem dL_areHousesRight_214 : decode cL_areHousesRight 214 = .ok (.if_icmp .ge 96, 3) := by decide +kernel
theorem dL_areHousesRight_217 : decode cL_areHousesRight 217 = .ok (.aload_n 0, 1) := by decide +kernel
theorem dL_areHousesRight_218 : decode cL_areHousesRight 218 = .ok (.iload_n 3, 1) := by decide +kernel
theorem dL_areHousesRight_219 : decode cL_areHousesRight 219 = .ok (.iconst 1, 1) := by decide +kernel
theorem dL_areHousesRight_220 : decode cL_areHousesRight 220 = .ok (.isub, 1) := by decide +kernel
theorem dL_areHousesRight_221 : decode cL_areHousesRight 221 = .ok (.invokevirtual 103, 3) := by decide +kernel
theorem dL_areHousesRight_224 : decode cL_areHousesRight 224 = .ok (.istore 4, 2) := by decide +kernel
theorem dL_areHousesRight_226 : decode cL_areHousesRight 226 = .ok (.aload_n 0, 1) := by decide +kernel
theorem dL_areHousesRight_227 : decode cL_areHousesRight 227 = .ok (.iload_n 3, 1) := by decide +kernel
theorem dL_areHousesRight_228 : decode cL_areHousesRight 228 = .ok (.invokevirtual 103, 3) := by decide +kernel
theorem dL_areHousesRight_231 : decode cL_areHousesRight 231 = .ok (.istore 5, 2) := by decide +kernel
theorem dL_areHousesRight_233 : decode cL_areHousesRight 233 = .ok (.aload_n 0, 1) := by decide +kernel
theorem dL_areHousesRight_234 : decode cL_areHousesRight 234 = .ok (.iload 4, 2) := by decide +kernel
theorem dL_areHousesRight_236 : decode cL_areHousesRight 236 = .ok (.iconst 4, 1) := by decide +kernel
theorem dL_areHousesRight_237 : decode cL_areHousesRight 237 = .ok (.invokevirtual 72, 3) := by decide +kernel
theorem dL_areHousesRight_240 : decode cL_areHousesRight 240 = .ok (.aload_n 0, 1) := by decide +kernel
theorem dL_areHousesRight_241 : decode cL_areHousesRight 241 = .ok (.iload 5, 2) := by decide +kernel
theorem dL_areHousesRight_243 : decode cL_areHousesRight 243 = .ok (.iconst 4, 1) := by decide +kernel
theorem dL_areHousesRight_244 : decode cL_areHousesRight 244 = .ok (.invokevirtual 72, 3) := by decide +kernel
theorem dL_areHousesRight_247 : decode cL_areHousesRight 247 = .ok (.isub, 1) := by decide +kernel
theorem dL_areHousesRight_248 : decode cL_areHousesRight 248 = .ok (.istore 6, 2) := by decide +kernel
theorem dL_areHousesRight_250 : decode cL_areHousesRight 250 = .ok (.aload_n 0, 1) := by decide +kernel
theorem dL_areHousesRight_251 : decode cL_areHousesRight 251 = .ok (.iload 4, 2) := by decide +kernel
theorem dL_areHousesRight_253 : decode cL_areHousesRight 253 = .ok (.iconst 3, 1) := by decide +kernel
theorem dL_areHousesRight_254 : decode cL_areHousesRight 254 = .ok (.invokevirtual 72, 3) := by decide +kernel
theorem dL_areHousesRight_257 : decode cL_areHousesRight 257 = .ok (.aload_n 0, 1) := by decide +kernel
theorem dL_areHousesRight_258 : decode cL_areHousesRight 258 = .ok (.iload 5, 2) := by decide +kernel
theorem dL_areHousesRight_260 : decode cL_areHousesRight 260 = .ok (.iconst 3, 1) := by decide +kernel
theorem dL_areHousesRight_261 : decode cL_areHousesRight 261 = .ok (.invokevirtual 72, 3) := by decide +kernel
theorem dL_areHousesRight_264 : decode cL_areHousesRight 264 = .ok (.isub, 1) := by decide +kernel
theorem dL_areHousesRight_265 : decode cL_areHousesRight 265 = .ok (.istore 7, 2) := by decide +kernel
theorem dL_areHousesRight_267 : decode cL_areHousesRight 267 = .ok (.iload_n 1, 1) := by decide +kernel
theorem dL_areHousesRight_268 : decode cL_areHousesRight 268 = .ok (.ifCond .eq 34, 3) := by decide +kernel
theorem dL_areHousesRight_271 : decode cL_areHousesRight 271 = .ok (.iload 6, 2) := by decide +kernel
theorem dL_areHousesRight_273 : decode cL_areHousesRight 273 = .ok (.ifCond .gt 25, 3) := by decide +kernel
theorem dL_areHousesRight_276 : decode cL_areHousesRight 276 = .ok (.iload 6, 2) := by decide +kernel
theorem dL_areHousesRight_278 : decode cL_areHousesRight 278 = .ok (.ifCond .ne 24, 3) := by decide +kernel
theorem dL_areHousesRight_281 : decode cL_areHousesRight 281 = .ok (.iload 7, 2) := by decide +kernel
theorem dL_areHousesRight_283 : decode cL_areHousesRight 283 = .ok (.ifCond .gt 15, 3) := by decide +kernel
theorem dL_areHousesRight_286 : decode cL_areHousesRight 286 = .ok (.iload 7, 2) := by decide +kernel
theorem dL_areHousesRight_288 : decode cL_areHousesRight 288 = .ok (.ifCond .ne 14, 3) := by decide +kernel
theorem dL_areHousesRight_291 : decode cL_areHousesRight 291 = .ok (.iload 4, 2) := by decide +kernel
theorem dL_areHousesRight_293 : decode cL_areHousesRight 293 = .ok (.iload 5, 2) := by decide +kernel
theorem dL_areHousesRight_295 : decode cL_areHousesRight 295 = .ok (.if_icmp .ge 7, 3) := by decide +kernel
theorem dL_areHousesRight_298 : decode cL_areHousesRight 298 = .ok (.iconst 1, 1) := by decide +kernel
theorem dL_areHousesRight_299 : decode cL_areHousesRight 299 = .ok (.goto 4, 3) := by decide +kernel
theorem dL_areHousesRight_302 : decode cL_areHousesRight 302 = .ok (.iconst 0, 1) := by decide +kernel
theorem dL_areHousesRight_303 : decode cL_areHousesRight 303 = .ok (.istore_n 1, 1) := by decide +kernel
theorem dL_areHousesRight_304 : decode cL_areHousesRight 304 = .ok (.iinc 3 1, 3) := by decide +kernel
theorem dL_areHousesRight_307 : decode cL_areHousesRight 307 = .ok (.goto (-99), 3) := by decide +kernel
theorem dL_areHousesRight_310 : decode cL_areHousesRight 310 = .ok (.iload_n 2, 1) := by decide +kernel
theorem dL_areHousesRight_311 : decode cL_areHousesRight 311 = .ok (.iconst 3, 1) := by decide +kernel
theorem dL_areHousesRight_312 : decode cL_areHousesRight 312 = .ok (.if_icmp .lt 19, 3) := by decide +kernel
theorem dL_areHousesRight_315 : decode cL_areHousesRight 315 = .ok (.aload_n 0, 1) := by decide +kernel
theorem dL_areHousesRight_316 : decode cL_areHousesRight 316 = .ok (.iconst 1, 1) := by decide +kernel
theorem dL_areHousesRight_317 : decode cL_areHousesRight 317 = .ok (.invokevirtual 38, 3) := by decide +kernel
theorem dL_areHousesRight_320 : decode cL_areHousesRight 320 = .ok (.aload_n 0, 1) := by decide +kernel
theorem dL_areHousesRight_321 : decode cL_areHousesRight 321 = .ok (.iconst 3, 1) := by decide +kernel
theorem dL_areHousesRight_322 : decode cL_areHousesRight 322 = .ok (.invokevirtual 38, 3) := by decide +kernel
theorem dL_areHousesRight_325 : decode cL_areHousesRight 325 = .ok (.invokestatic 106, 3) := by decide +kernel
theorem dL_areHousesRight_328 : decode cL_areHousesRight 328 = .ok (.goto 8, 3) := by decide +kernel
theorem dL_areHousesRight_331 : decode cL_areHousesRight 331 = .ok (.aload_n 0, 1) := by decide +kernel
theorem dL_areHousesRight_332 : decode cL_areHousesRight 332 = .ok (.iconst 3, 1) := by decide +kernel
theorem dL_areHousesRight_333 : decode cL_areHousesRight 333 = .ok (.invokevirtual 38, 3) := by decide +kernel
theorem dL_areHousesRight_336 : decode cL_areHousesRight 336 = .ok (.istore_n 3, 1) := by decide +kernel
theorem dL_areHousesRight_337 : decode cL_areHousesRight 337 = .ok (.iload_n 1, 1) := by decide +kernel
theorem dL_areHousesRight_338 : decode cL_areHousesRight 338 = .ok (.ifCond .eq 25, 3) := by decide +kernel
theorem dL_areHousesRight_341 : decode cL_areHousesRight 341 = .ok (.iload_n 2, 1) := by decide +kernel
theorem dL_areHousesRight_342 : decode cL_areHousesRight 342 = .ok (.aload_n 0, 1) := by decide +kernel
theorem dL_areHousesRight_343 : decode cL_areHousesRight 343 = .ok (.bipush 12, 2) := by decide +kernel
theorem dL_areHousesRight_345 : decode cL_areHousesRight 345 = .ok (.invokevirtual 38, 3) := by decide +kernel
theorem dL_areHousesRight_348 : decode cL_areHousesRight 348 = .ok (.if_icmp .ne 15, 3) := by decide +kernel
theorem dL_areHousesRight_351 : decode cL_areHousesRight 351 = .ok (.aload_n 0, 1) := by decide +kernel
theorem dL_areHousesRight_352 : decode cL_areHousesRight 352 = .ok (.invokevirtual 111, 3) := by decide +kernel
theorem dL_areHousesRight_355 : decode cL_areHousesRight 355 = .ok (.iload_n 3, 1) := by decide +kernel
theorem dL_areHousesRight_356 : decode cL_areHousesRight 356 = .ok (.if_icmp .ne 7, 3) := by decide +kernel
theorem dL_areHousesRight_359 : decode cL_areHousesRight 359 = .ok (.iconst 1, 1) := by decide +kernel
theorem dL_areHousesRight_360 : decode cL_areHousesRight 360 = .ok (.goto 4, 3) := by decide +kernel
theorem dL_areHousesRight_363 : decode cL_areHousesRight 363 = .ok (.iconst 0, 1) := by decide +kernel
theorem dL_areHousesRight_364 : decode cL_areHousesRight 364 = .ok (.ireturn, 1) := by decide +kernel
theorem dL_law_0 : decode cL_law 0 = .ok (.new 20, 3) := by decide +kernel
theorem dL_law_3 : decode cL_law 3 = .ok (.dup, 1) := by decide +kernel
theorem dL_law_4 : decode cL_law 4 = .ok (.invokespecial 114, 3) := by decide +kernel
theorem dL_law_7 : decode cL_law 7 = .ok (.astore_n 1, 1) := by decide +kernel
theorem dL_law_8 : decode cL_law 8 = .ok (.aload_n 1, 1) := by decide +kernel
theorem dL_law_9 : decode cL_law 9 = .ok (.aload_n 0, 1) := by decide +kernel
theorem dL_law_10 : decode cL_law 10 = .ok (.invokestatic 115, 3) := by decide +kernel
theorem dL_law_13 : decode cL_law 13 = .ok (.iconst 0, 1) := by decide +kernel
theorem dL_law_14 : decode cL_law 14 = .ok (.istore_n 2, 1) := by decide +kernel
theorem dL_law_15 : decode cL_law 15 = .ok (.iload_n 2, 1) := by decide +kernel
theorem dL_law_16 : decode cL_law 16 = .ok (.bipush 30, 2) := by decide +kernel
theorem dL_law_18 : decode cL_law 18 = .ok (.if_icmp .ge 156, 3) := by decide +kernel
theorem dL_law_21 : decode cL_law 21 = .ok (.aload_n 1, 1) := by decide +kernel
theorem dL_law_22 : decode cL_law 22 = .ok (.bipush 9, 2) := by decide +kernel
theorem dL_law_24 : decode cL_law 24 = .ok (.invokevirtual 38, 3) := by decide +kernel
theorem dL_law_27 : decode cL_law 27 = .ok (.istore_n 3, 1) := by decide +kernel
theorem dL_law_28 : decode cL_law 28 = .ok (.aload_n 1, 1) := by decide +kernel
theorem dL_law_29 : decode cL_law 29 = .ok (.bipush 10, 2) := by decide +kernel
theorem dL_law_31 : decode cL_law 31 = .ok (.invokevirtual 38, 3) := by decide +kernel
theorem dL_law_34 : decode cL_law 34 = .ok (.istore 4, 2) := by decide +kernel
theorem dL_law_36 : decode cL_law 36 = .ok (.aload_n 1, 1) := by decide +kernel
theorem dL_law_37 : decode cL_law 37 = .ok (.bipush 11, 2) := by decide +kernel
theorem dL_law_39 : decode cL_law 39 = .ok (.invokevirtual 38, 3) := by decide +kernel
theorem dL_law_42 : decode cL_law 42 = .ok (.istore 5, 2) := by decide +kernel
theorem dL_law_44 : decode cL_law 44 = .ok (.aload_n 0, 1) := by decide +kernel
theorem dL_law_45 : decode cL_law 45 = .ok (.bipush 40, 2) := by decide +kernel
theorem dL_law_47 : decode cL_law 47 = .ok (.iconst 5, 1) := by decide +kernel
theorem dL_law_48 : decode cL_law 48 = .ok (.iload_n 2, 1) := by decide +kernel
theorem dL_law_49 : decode cL_law 49 = .ok (.imul, 1) := by decide +kernel
theorem dL_law_50 : decode cL_law 50 = .ok (.iadd, 1) := by decide +kernel
theorem dL_law_51 : decode cL_law 51 = .ok (.bipush 24, 2) := by decide +kernel
theorem dL_law_53 : decode cL_law 53 = .ok (.invokestatic 15, 3) := by decide +kernel
theorem dL_law_56 : decode cL_law 56 = .ok (.istore 6, 2) := by decide +kernel
theorem dL_law_58 : decode cL_law 58 = .ok (.aload_n 1, 1) := by decide +kernel
theorem dL_law_59 : decode cL_law 59 = .ok (.aload_n 0, 1) := by decide +kernel
theorem dL_law_60 : decode cL_law 60 = .ok (.bipush 40, 2) := by decide +kernel
theorem dL_law_62 : decode cL_law 62 = .ok (.iconst 5, 1) := by decide +kernel
theorem dL_law_63 : decode cL_law 63 = .ok (.iload_n 2, 1) := by decide +kernel
theorem dL_law_64 : decode cL_law 64 = .ok (.imul, 1) := by decide +kernel
theorem dL_law_65 : decode cL_law 65 = .ok (.iadd, 1) := by decide +kernel
theorem dL_law_66 : decode cL_law 66 = .ok (.iload 6, 2) := by decide +kernel
theorem dL_law_68 : decode cL_law 68 = .ok (.invokestatic 69, 3) := by decide +kernel
theorem dL_law_71 : decode cL_law 71 = .ok (.istore 7, 2) := by decide +kernel
theorem dL_law_73 : decode cL_law 73 = .ok (.iload_n 3, 1) := by decide +kernel
theorem dL_law_74 : decode cL_law 74 = .ok (.aload_n 1, 1) := by decide +kernel
theorem dL_law_75 : decode cL_law 75 = .ok (.bipush 10, 2) := by decide +kernel
theorem dL_law_77 : decode cL_law 77 = .ok (.invokevirtual 38, 3) := by decide +kernel
theorem dL_law_80 : decode cL_law 80 = .ok (.iadd, 1) := by decide +kernel
theorem dL_law_81 : decode cL_law 81 = .ok (.iload 4, 2) := by decide +kernel
theorem dL_law_83 : decode cL_law 83 = .ok (.isub, 1) := by decide +kernel
theorem dL_law_84 : decode cL_law 84 = .ok (.aload_n 1, 1) := by decide +kernel
theorem dL_law_85 : decode cL_law 85 = .ok (.bipush 9, 2) := by decide +kernel
theorem dL_law_87 : decode cL_law 87 = .ok (.invokevirtual 38, 3) := by decide +kernel
theorem dL_law_90 : decode cL_law 90 = .ok (.isub, 1) := by decide +kernel
theorem dL_law_91 : decode cL_law 91 = .ok (.istore 8, 2) := by decide +kernel
theorem dL_law_93 : decode cL_law 93 = .ok (.iload 8, 2) := by decide +kernel
theorem dL_law_95 : decode cL_law 95 = .ok (.iload 7, 2) := by decide +kernel
theorem dL_law_97 : decode cL_law 97 = .ok (.bipush (-9), 2) := by decide +kernel
theorem dL_law_99 : decode cL_law 99 = .ok (.if_icmp .ne 7, 3) := by decide +kernel
theorem dL_law_102 : decode cL_law 102 = .ok (.iconst 0, 1) := by decide +kernel
theorem dL_law_103 : decode cL_law 103 = .ok (.goto 34, 3) := by decide +kernel
theorem dL_law_106 : decode cL_law 106 = .ok (.iload 6, 2) := by decide +kernel
theorem dL_law_108 : decode cL_law 108 = .ok (.bipush 12, 2) := by decide +kernel
theorem dL_law_110 : decode cL_law 110 = .ok (.if_icmp .ne 15, 3) := by decide +kernel
theorem dL_law_113 : decode cL_law 113 = .ok (.aload_n 1, 1) := by decide +kernel
theorem dL_law_114 : decode cL_law 114 = .ok (.bipush 11, 2) := by decide +kernel
theorem dL_law_116 : decode cL_law 116 = .ok (.invokevirtual 38, 3) := by decide +kernel
theorem dL_law_119 : decode cL_law 119 = .ok (.iload 5, 2) := by decide +kernel
theorem dL_law_121 : decode cL_law 121 = .ok (.isub, 1) := by decide +kernel
theorem dL_law_122 : decode cL_law 122 = .ok (.goto 15, 3) := by decide +kernel
theorem dL_law_125 : decode cL_law 125 = .ok (.iload 6, 2) := by decide +kernel
theorem dL_law_127 : decode cL_law 127 = .ok (.bipush 16, 2) := by decide +kernel
theorem dL_law_129 : decode cL_law 129 = .ok (.if_icmp .ne 7, 3) := by decide +kernel
theorem dL_law_132 : decode cL_law 132 = .ok (.iconst 4, 1) := by decide +kernel
theorem dL_law_133 : decode cL_law 133 = .ok (.goto 4, 3) := by decide +kernel
theorem dL_law_136 : decode cL_law 136 = .ok (.iconst 0, 1) := by decide +kernel
theorem dL_law_137 : decode cL_law 137 = .ok (.if_icmp .ne 7, 3) := by decide +kernel
theorem dL_law_140 : decode cL_law 140 = .ok (.iconst 1, 1) := by decide +kernel
theorem dL_law_141 : decode cL_law 141 = .ok (.goto 4, 3) := by decide +kernel
theorem dL_law_144 : decode cL_law 144 = .ok (.iconst 0, 1) := by decide +kernel
theorem dL_law_145 : decode cL_law 145 = .ok (.istore 9, 2) := by decide +kernel
theorem dL_law_147 : decode cL_law 147 = .ok (.iload 9, 2) := by decide +kernel
theorem dL_law_149 : decode cL_law 149 = .ok (.ifCond .eq 17, 3) := by decide +kernel
theorem dL_law_152 : decode cL_law 152 = .ok (.aload_n 1, 1) := by decide +kernel
theorem dL_law_153 : decode cL_law 153 = .ok (.invokestatic 119, 3) := by decide +kernel
theorem dL_law_156 : decode cL_law 156 = .ok (.ifCond .eq 10, 3) := by decide +kernel
theorem dL_law_159 : decode cL_law 159 = .ok (.aload_n 1, 1) := by decide +kernel
theorem dL_law_160 : decode cL_law 160 = .ok (.invokestatic 123, 3) := by decide +kernel
theorem dL_law_163 : decode cL_law 163 = .ok (.ifCond .ne 5, 3) := by decide +kernel
theorem dL_law_166 : decode cL_law 166 = .ok (.iconst 0, 1) := by decide +kernel
theorem dL_law_167 : decode cL_law 167 = .ok (.ireturn, 1) := by decide +kernel
theorem dL_law_168 : decode cL_law 168 = .ok (.iinc 2 1, 3) := by decide +kernel
theorem dL_law_171 : decode cL_law 171 = .ok (.goto (-156), 3) := by decide +kernel
theorem dL_law_174 : decode cL_law 174 = .ok (.iconst 1, 1) := by decide +kernel
theorem dL_law_175 : decode cL_law 175 = .ok (.ireturn, 1) := by decide +kernel
