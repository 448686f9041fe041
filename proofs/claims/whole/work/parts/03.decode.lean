theorem dX0_init_0 : decode cX0_init 0 = .ok (.aload_n 0, 1) := by decide +kernel
theorem dX0_init_1 : decode cX0_init 1 = .ok (.invokespecial 3, 3) := by decide +kernel
theorem dX0_init_4 : decode cX0_init 4 = .ok (.return_, 1) := by decide +kernel
theorem dX0_copyFrom_0 : decode cX0_copyFrom 0 = .ok (.aload_n 0, 1) := by decide +kernel
theorem dX0_copyFrom_1 : decode cX0_copyFrom 1 = .ok (.aload_n 1, 1) := by decide +kernel
theorem dX0_copyFrom_2 : decode cX0_copyFrom 2 = .ok (.getfield 9, 3) := by decide +kernel
theorem dX0_copyFrom_5 : decode cX0_copyFrom 5 = .ok (.putfield 9, 3) := by decide +kernel
theorem dX0_copyFrom_8 : decode cX0_copyFrom 8 = .ok (.aload_n 0, 1) := by decide +kernel
theorem dX0_copyFrom_9 : decode cX0_copyFrom 9 = .ok (.aload_n 1, 1) := by decide +kernel
theorem dX0_copyFrom_10 : decode cX0_copyFrom 10 = .ok (.getfield 15, 3) := by decide +kernel
theorem dX0_copyFrom_13 : decode cX0_copyFrom 13 = .ok (.putfield 15, 3) := by decide +kernel
theorem dX0_copyFrom_16 : decode cX0_copyFrom 16 = .ok (.aload_n 0, 1) := by decide +kernel
theorem dX0_copyFrom_17 : decode cX0_copyFrom 17 = .ok (.aload_n 1, 1) := by decide +kernel
theorem dX0_copyFrom_18 : decode cX0_copyFrom 18 = .ok (.getfield 18, 3) := by decide +kernel
theorem dX0_copyFrom_21 : decode cX0_copyFrom 21 = .ok (.putfield 18, 3) := by decide +kernel
theorem dX0_copyFrom_24 : decode cX0_copyFrom 24 = .ok (.aload_n 0, 1) := by decide +kernel
theorem dX0_copyFrom_25 : decode cX0_copyFrom 25 = .ok (.aload_n 1, 1) := by decide +kernel
theorem dX0_copyFrom_26 : decode cX0_copyFrom 26 = .ok (.getfield 21, 3) := by decide +kernel
theorem dX0_copyFrom_29 : decode cX0_copyFrom 29 = .ok (.putfield 21, 3) := by decide +kernel
theorem dX0_copyFrom_32 : decode cX0_copyFrom 32 = .ok (.return_, 1) := by decide +kernel
theorem dX0_number_0 : decode cX0_number 0 = .ok (.iload_n 1, 1) := by decide +kernel
theorem dX0_number_1 : decode cX0_number 1 = .ok (.tableswitch 42 0 2 #[27, 32, 37], 27) := by decide +kernel
theorem dX0_number_28 : decode cX0_number 28 = .ok (.aload_n 0, 1) := by decide +kernel
theorem dX0_number_29 : decode cX0_number 29 = .ok (.getfield 9, 3) := by decide +kernel
theorem dX0_number_32 : decode cX0_number 32 = .ok (.ireturn, 1) := by decide +kernel
theorem dX0_number_33 : decode cX0_number 33 = .ok (.aload_n 0, 1) := by decide +kernel
theorem dX0_number_34 : decode cX0_number 34 = .ok (.getfield 15, 3) := by decide +kernel
theorem dX0_number_37 : decode cX0_number 37 = .ok (.ireturn, 1) := by decide +kernel
theorem dX0_number_38 : decode cX0_number 38 = .ok (.aload_n 0, 1) := by decide +kernel
theorem dX0_number_39 : decode cX0_number 39 = .ok (.getfield 18, 3) := by decide +kernel
theorem dX0_number_42 : decode cX0_number 42 = .ok (.ireturn, 1) := by decide +kernel
theorem dX0_number_43 : decode cX0_number 43 = .ok (.aload_n 0, 1) := by decide +kernel
theorem dX0_number_44 : decode cX0_number 44 = .ok (.getfield 21, 3) := by decide +kernel
theorem dX0_number_47 : decode cX0_number 47 = .ok (.ireturn, 1) := by decide +kernel
theorem dX0_tiredByASack_0 : decode cX0_tiredByASack 0 = .ok (.iconst 5, 1) := by decide +kernel
theorem dX0_tiredByASack_1 : decode cX0_tiredByASack 1 = .ok (.aload_n 0, 1) := by decide +kernel
theorem dX0_tiredByASack_2 : decode cX0_tiredByASack 2 = .ok (.getfield 9, 3) := by decide +kernel
theorem dX0_tiredByASack_5 : decode cX0_tiredByASack 5 = .ok (.iadd, 1) := by decide +kernel
theorem dX0_tiredByASack_6 : decode cX0_tiredByASack 6 = .ok (.istore_n 2, 1) := by decide +kernel
theorem dX0_tiredByASack_7 : decode cX0_tiredByASack 7 = .ok (.iload_n 2, 1) := by decide +kernel
theorem dX0_tiredByASack_8 : decode cX0_tiredByASack 8 = .ok (.ifCond .gt 7, 3) := by decide +kernel
theorem dX0_tiredByASack_11 : decode cX0_tiredByASack 11 = .ok (.iconst 1, 1) := by decide +kernel
theorem dX0_tiredByASack_12 : decode cX0_tiredByASack 12 = .ok (.goto 14, 3) := by decide +kernel
theorem dX0_tiredByASack_15 : decode cX0_tiredByASack 15 = .ok (.iconst 1, 1) := by decide +kernel
theorem dX0_tiredByASack_16 : decode cX0_tiredByASack 16 = .ok (.bipush 6, 2) := by decide +kernel
theorem dX0_tiredByASack_18 : decode cX0_tiredByASack 18 = .ok (.aload_n 1, 1) := by decide +kernel
theorem dX0_tiredByASack_19 : decode cX0_tiredByASack 19 = .ok (.getfield 24, 3) := by decide +kernel
theorem dX0_tiredByASack_22 : decode cX0_tiredByASack 22 = .ok (.imul, 1) := by decide +kernel
theorem dX0_tiredByASack_23 : decode cX0_tiredByASack 23 = .ok (.iload_n 2, 1) := by decide +kernel
theorem dX0_tiredByASack_24 : decode cX0_tiredByASack 24 = .ok (.idiv, 1) := by decide +kernel
theorem dX0_tiredByASack_25 : decode cX0_tiredByASack 25 = .ok (.iadd, 1) := by decide +kernel
theorem dX0_tiredByASack_26 : decode cX0_tiredByASack 26 = .ok (.ireturn, 1) := by decide +kernel
theorem dX0_sacksUntilTired_0 : decode cX0_sacksUntilTired 0 = .ok (.aload_n 0, 1) := by decide +kernel
theorem dX0_sacksUntilTired_1 : decode cX0_sacksUntilTired 1 = .ok (.aload_n 1, 1) := by decide +kernel
theorem dX0_sacksUntilTired_2 : decode cX0_sacksUntilTired 2 = .ok (.invokevirtual 29, 3) := by decide +kernel
theorem dX0_sacksUntilTired_5 : decode cX0_sacksUntilTired 5 = .ok (.istore_n 2, 1) := by decide +kernel
theorem dX0_sacksUntilTired_6 : decode cX0_sacksUntilTired 6 = .ok (.iload_n 2, 1) := by decide +kernel
theorem dX0_sacksUntilTired_7 : decode cX0_sacksUntilTired 7 = .ok (.ifCond .gt 7, 3) := by decide +kernel
theorem dX0_sacksUntilTired_10 : decode cX0_sacksUntilTired 10 = .ok (.iconst 0, 1) := by decide +kernel
theorem dX0_sacksUntilTired_11 : decode cX0_sacksUntilTired 11 = .ok (.goto 12, 3) := by decide +kernel
theorem dX0_sacksUntilTired_14 : decode cX0_sacksUntilTired 14 = .ok (.bipush 30, 2) := by decide +kernel
theorem dX0_sacksUntilTired_16 : decode cX0_sacksUntilTired 16 = .ok (.aload_n 0, 1) := by decide +kernel
theorem dX0_sacksUntilTired_17 : decode cX0_sacksUntilTired 17 = .ok (.getfield 15, 3) := by decide +kernel
theorem dX0_sacksUntilTired_20 : decode cX0_sacksUntilTired 20 = .ok (.isub, 1) := by decide +kernel
theorem dX0_sacksUntilTired_21 : decode cX0_sacksUntilTired 21 = .ok (.iload_n 2, 1) := by decide +kernel
theorem dX0_sacksUntilTired_22 : decode cX0_sacksUntilTired 22 = .ok (.idiv, 1) := by decide +kernel
theorem dX0_sacksUntilTired_23 : decode cX0_sacksUntilTired 23 = .ok (.ireturn, 1) := by decide +kernel
theorem dX0_carrySack_0 : decode cX0_carrySack 0 = .ok (.aload_n 0, 1) := by decide +kernel
theorem dX0_carrySack_1 : decode cX0_carrySack 1 = .ok (.dup, 1) := by decide +kernel
theorem dX0_carrySack_2 : decode cX0_carrySack 2 = .ok (.getfield 15, 3) := by decide +kernel
theorem dX0_carrySack_5 : decode cX0_carrySack 5 = .ok (.aload_n 0, 1) := by decide +kernel
theorem dX0_carrySack_6 : decode cX0_carrySack 6 = .ok (.aload_n 1, 1) := by decide +kernel
theorem dX0_carrySack_7 : decode cX0_carrySack 7 = .ok (.invokevirtual 29, 3) := by decide +kernel
theorem dX0_carrySack_10 : decode cX0_carrySack 10 = .ok (.iadd, 1) := by decide +kernel
theorem dX0_carrySack_11 : decode cX0_carrySack 11 = .ok (.putfield 15, 3) := by decide +kernel
theorem dX0_carrySack_14 : decode cX0_carrySack 14 = .ok (.aload_n 0, 1) := by decide +kernel
theorem dX0_carrySack_15 : decode cX0_carrySack 15 = .ok (.bipush 9, 2) := by decide +kernel
theorem dX0_carrySack_17 : decode cX0_carrySack 17 = .ok (.aload_n 0, 1) := by decide +kernel
theorem dX0_carrySack_18 : decode cX0_carrySack 18 = .ok (.getfield 18, 3) := by decide +kernel
theorem dX0_carrySack_21 : decode cX0_carrySack 21 = .ok (.iconst 1, 1) := by decide +kernel
theorem dX0_carrySack_22 : decode cX0_carrySack 22 = .ok (.iadd, 1) := by decide +kernel
theorem dX0_carrySack_23 : decode cX0_carrySack 23 = .ok (.invokestatic 33, 3) := by decide +kernel
theorem dX0_carrySack_26 : decode cX0_carrySack 26 = .ok (.putfield 18, 3) := by decide +kernel
theorem dX0_carrySack_29 : decode cX0_carrySack 29 = .ok (.aload_n 0, 1) := by decide +kernel
theorem dX0_carrySack_30 : decode cX0_carrySack 30 = .ok (.dup, 1) := by decide +kernel
theorem dX0_carrySack_31 : decode cX0_carrySack 31 = .ok (.getfield 21, 3) := by decide +kernel
theorem dX0_carrySack_34 : decode cX0_carrySack 34 = .ok (.iconst 1, 1) := by decide +kernel
theorem dX0_carrySack_35 : decode cX0_carrySack 35 = .ok (.iadd, 1) := by decide +kernel
theorem dX0_carrySack_36 : decode cX0_carrySack 36 = .ok (.putfield 21, 3) := by decide +kernel
theorem dX0_carrySack_39 : decode cX0_carrySack 39 = .ok (.aload_n 1, 1) := by decide +kernel
theorem dX0_carrySack_40 : decode cX0_carrySack 40 = .ok (.aload_n 0, 1) := by decide +kernel
theorem dX0_carrySack_41 : decode cX0_carrySack 41 = .ok (.getfield 18, 3) := by decide +kernel
theorem dX0_carrySack_44 : decode cX0_carrySack 44 = .ok (.invokevirtual 39, 3) := by decide +kernel
theorem dX0_carrySack_47 : decode cX0_carrySack 47 = .ok (.return_, 1) := by decide +kernel
theorem dX0_beginDay_0 : decode cX0_beginDay 0 = .ok (.aload_n 0, 1) := by decide +kernel
theorem dX0_beginDay_1 : decode cX0_beginDay 1 = .ok (.iconst 0, 1) := by decide +kernel
theorem dX0_beginDay_2 : decode cX0_beginDay 2 = .ok (.aload_n 0, 1) := by decide +kernel
theorem dX0_beginDay_3 : decode cX0_beginDay 3 = .ok (.getfield 15, 3) := by decide +kernel
theorem dX0_beginDay_6 : decode cX0_beginDay 6 = .ok (.bipush 8, 2) := by decide +kernel
theorem dX0_beginDay_8 : decode cX0_beginDay 8 = .ok (.isub, 1) := by decide +kernel
theorem dX0_beginDay_9 : decode cX0_beginDay 9 = .ok (.invokestatic 43, 3) := by decide +kernel
theorem dX0_beginDay_12 : decode cX0_beginDay 12 = .ok (.putfield 15, 3) := by decide +kernel
theorem dX0_beginDay_15 : decode cX0_beginDay 15 = .ok (.aload_n 0, 1) := by decide +kernel
theorem dX0_beginDay_16 : decode cX0_beginDay 16 = .ok (.iconst 0, 1) := by decide +kernel
theorem dX0_beginDay_17 : decode cX0_beginDay 17 = .ok (.putfield 18, 3) := by decide +kernel
theorem dX0_beginDay_20 : decode cX0_beginDay 20 = .ok (.return_, 1) := by decide +kernel
theorem dX1_init_0 : decode cX1_init 0 = .ok (.aload_n 0, 1) := by decide +kernel
theorem dX1_init_1 : decode cX1_init 1 = .ok (.invokespecial 3, 3) := by decide +kernel
theorem dX1_init_4 : decode cX1_init 4 = .ok (.aload_n 0, 1) := by decide +kernel
theorem dX1_init_5 : decode cX1_init 5 = .ok (.bipush 60, 2) := by decide +kernel
theorem dX1_init_7 : decode cX1_init 7 = .ok (.newarray .char, 2) := by decide +kernel
theorem dX1_init_9 : decode cX1_init 9 = .ok (.putfield 9, 3) := by decide +kernel
theorem dX1_init_12 : decode cX1_init 12 = .ok (.aload_n 0, 1) := by decide +kernel
theorem dX1_init_13 : decode cX1_init 13 = .ok (.bipush 30, 2) := by decide +kernel
theorem dX1_init_15 : decode cX1_init 15 = .ok (.newarray .int, 2) := by decide +kernel
theorem dX1_init_17 : decode cX1_init 17 = .ok (.putfield 15, 3) := by decide +kernel
theorem dX1_init_20 : decode cX1_init 20 = .ok (.aload_n 0, 1) := by decide +kernel
theorem dX1_init_21 : decode cX1_init 21 = .ok (.bipush 30, 2) := by decide +kernel
theorem dX1_init_23 : decode cX1_init 23 = .ok (.newarray .int, 2) := by decide +kernel
theorem dX1_init_25 : decode cX1_init 25 = .ok (.putfield 19, 3) := by decide +kernel
theorem dX1_init_28 : decode cX1_init 28 = .ok (.aload_n 0, 1) := by decide +kernel
theorem dX1_init_29 : decode cX1_init 29 = .ok (.bipush 30, 2) := by decide +kernel
theorem dX1_init_31 : decode cX1_init 31 = .ok (.newarray .int, 2) := by decide +kernel
theorem dX1_init_33 : decode cX1_init 33 = .ok (.putfield 22, 3) := by decide +kernel
theorem dX1_init_36 : decode cX1_init 36 = .ok (.return_, 1) := by decide +kernel
theorem dX1_isRead_0 : decode cX1_isRead 0 = .ok (.aload_n 0, 1) := by decide +kernel
theorem dX1_isRead_1 : decode cX1_isRead 1 = .ok (.iconst 0, 1) := by decide +kernel
theorem dX1_isRead_2 : decode cX1_isRead 2 = .ok (.putfield 25, 3) := by decide +kernel
theorem dX1_isRead_5 : decode cX1_isRead 5 = .ok (.aload_n 0, 1) := by decide +kernel
theorem dX1_isRead_6 : decode cX1_isRead 6 = .ok (.iconst 0, 1) := by decide +kernel
theorem dX1_isRead_7 : decode cX1_isRead 7 = .ok (.putfield 29, 3) := by decide +kernel
theorem dX1_isRead_10 : decode cX1_isRead 10 = .ok (.iconst 0, 1) := by decide +kernel
theorem dX1_isRead_11 : decode cX1_isRead 11 = .ok (.istore_n 1, 1) := by decide +kernel
theorem dX1_isRead_12 : decode cX1_isRead 12 = .ok (.iload_n 1, 1) := by decide +kernel
theorem dX1_isRead_13 : decode cX1_isRead 13 = .ok (.bipush 30, 2) := by decide +kernel
theorem dX1_isRead_15 : decode cX1_isRead 15 = .ok (.if_icmp .ge 42, 3) := by decide +kernel
theorem dX1_isRead_18 : decode cX1_isRead 18 = .ok (.aload_n 0, 1) := by decide +kernel
theorem dX1_isRead_19 : decode cX1_isRead 19 = .ok (.invokevirtual 32, 3) := by decide +kernel
theorem dX1_isRead_22 : decode cX1_isRead 22 = .ok (.ifCond .ne 5, 3) := by decide +kernel
theorem dX1_isRead_25 : decode cX1_isRead 25 = .ok (.iconst 0, 1) := by decide +kernel
theorem dX1_isRead_26 : decode cX1_isRead 26 = .ok (.ireturn, 1) := by decide +kernel
theorem dX1_isRead_27 : decode cX1_isRead 27 = .ok (.aload_n 0, 1) := by decide +kernel
theorem dX1_isRead_28 : decode cX1_isRead 28 = .ok (.getfield 25, 3) := by decide +kernel
theorem dX1_isRead_31 : decode cX1_isRead 31 = .ok (.aload_n 0, 1) := by decide +kernel
theorem dX1_isRead_32 : decode cX1_isRead 32 = .ok (.getfield 36, 3) := by decide +kernel
theorem dX1_isRead_35 : decode cX1_isRead 35 = .ok (.if_icmp .ne 5, 3) := by decide +kernel
theorem dX1_isRead_38 : decode cX1_isRead 38 = .ok (.iconst 1, 1) := by decide +kernel
theorem dX1_isRead_39 : decode cX1_isRead 39 = .ok (.ireturn, 1) := by decide +kernel
theorem dX1_isRead_40 : decode cX1_isRead 40 = .ok (.aload_n 0, 1) := by decide +kernel
theorem dX1_isRead_41 : decode cX1_isRead 41 = .ok (.bipush 59, 2) := by decide +kernel
theorem dX1_isRead_43 : decode cX1_isRead 43 = .ok (.invokevirtual 39, 3) := by decide +kernel
theorem dX1_isRead_46 : decode cX1_isRead 46 = .ok (.ifCond .ne 5, 3) := by decide +kernel
theorem dX1_isRead_49 : decode cX1_isRead 49 = .ok (.iconst 0, 1) := by decide +kernel
theorem dX1_isRead_50 : decode cX1_isRead 50 = .ok (.ireturn, 1) := by decide +kernel
theorem dX1_isRead_51 : decode cX1_isRead 51 = .ok (.iinc 1 1, 3) := by decide +kernel
theorem dX1_isRead_54 : decode cX1_isRead 54 = .ok (.goto (-42), 3) := by decide +kernel
theorem dX1_isRead_57 : decode cX1_isRead 57 = .ok (.iconst 0, 1) := by decide +kernel
theorem dX1_isRead_58 : decode cX1_isRead 58 = .ok (.ireturn, 1) := by decide +kernel
theorem dX1_isCommandRead_0 : decode cX1_isCommandRead 0 = .ok (.aload_n 0, 1) := by decide +kernel
theorem dX1_isCommandRead_1 : decode cX1_isCommandRead 1 = .ok (.getfield 25, 3) := by decide +kernel
theorem dX1_isCommandRead_4 : decode cX1_isCommandRead 4 = .ok (.aload_n 0, 1) := by decide +kernel
theorem dX1_isCommandRead_5 : decode cX1_isCommandRead 5 = .ok (.getfield 36, 3) := by decide +kernel
theorem dX1_isCommandRead_8 : decode cX1_isCommandRead 8 = .ok (.if_icmp .ge 20, 3) := by decide +kernel
theorem dX1_isCommandRead_11 : decode cX1_isCommandRead 11 = .ok (.ldc 43, 2) := by decide +kernel
theorem dX1_isCommandRead_13 : decode cX1_isCommandRead 13 = .ok (.aload_n 0, 1) := by decide +kernel
theorem dX1_isCommandRead_14 : decode cX1_isCommandRead 14 = .ok (.getfield 9, 3) := by decide +kernel
theorem dX1_isCommandRead_17 : decode cX1_isCommandRead 17 = .ok (.aload_n 0, 1) := by decide +kernel
theorem dX1_isCommandRead_18 : decode cX1_isCommandRead 18 = .ok (.getfield 25, 3) := by decide +kernel
theorem dX1_isCommandRead_21 : decode cX1_isCommandRead 21 = .ok (.caload, 1) := by decide +kernel
theorem dX1_isCommandRead_22 : decode cX1_isCommandRead 22 = .ok (.invokevirtual 45, 3) := by decide +kernel
theorem dX1_isCommandRead_25 : decode cX1_isCommandRead 25 = .ok (.goto 4, 3) := by decide +kernel
theorem dX1_isCommandRead_28 : decode cX1_isCommandRead 28 = .ok (.iconst (-1), 1) := by decide +kernel
theorem dX1_isCommandRead_29 : decode cX1_isCommandRead 29 = .ok (.istore_n 1, 1) := by decide +kernel
theorem dX1_isCommandRead_30 : decode cX1_isCommandRead 30 = .ok (.iload_n 1, 1) := by decide +kernel
theorem dX1_isCommandRead_31 : decode cX1_isCommandRead 31 = .ok (.ifCond .lt 20, 3) := by decide +kernel
theorem dX1_isCommandRead_34 : decode cX1_isCommandRead 34 = .ok (.iload_n 1, 1) := by decide +kernel
theorem dX1_isCommandRead_35 : decode cX1_isCommandRead 35 = .ok (.getstatic 51, 3) := by decide +kernel
theorem dX1_isCommandRead_38 : decode cX1_isCommandRead 38 = .ok (.arraylength, 1) := by decide +kernel
theorem dX1_isCommandRead_39 : decode cX1_isCommandRead 39 = .ok (.if_icmp .ge 12, 3) := by decide +kernel
theorem dX1_isCommandRead_42 : decode cX1_isCommandRead 42 = .ok (.aload_n 0, 1) := by decide +kernel
theorem dX1_isCommandRead_43 : decode cX1_isCommandRead 43 = .ok (.getfield 29, 3) := by decide +kernel
theorem dX1_isCommandRead_46 : decode cX1_isCommandRead 46 = .ok (.bipush 30, 2) := by decide +kernel
theorem dX1_isCommandRead_48 : decode cX1_isCommandRead 48 = .ok (.if_icmp .lt 5, 3) := by decide +kernel
theorem dX1_isCommandRead_51 : decode cX1_isCommandRead 51 = .ok (.iconst 0, 1) := by decide +kernel
theorem dX1_isCommandRead_52 : decode cX1_isCommandRead 52 = .ok (.ireturn, 1) := by decide +kernel
theorem dX1_isCommandRead_53 : decode cX1_isCommandRead 53 = .ok (.aload_n 0, 1) := by decide +kernel
theorem dX1_isCommandRead_54 : decode cX1_isCommandRead 54 = .ok (.dup, 1) := by decide +kernel
theorem dX1_isCommandRead_55 : decode cX1_isCommandRead 55 = .ok (.getfield 25, 3) := by decide +kernel
theorem dX1_isCommandRead_58 : decode cX1_isCommandRead 58 = .ok (.iconst 1, 1) := by decide +kernel
theorem dX1_isCommandRead_59 : decode cX1_isCommandRead 59 = .ok (.iadd, 1) := by decide +kernel
theorem dX1_isCommandRead_60 : decode cX1_isCommandRead 60 = .ok (.putfield 25, 3) := by decide +kernel
theorem dX1_isCommandRead_63 : decode cX1_isCommandRead 63 = .ok (.aload_n 0, 1) := by decide +kernel
theorem dX1_isCommandRead_64 : decode cX1_isCommandRead 64 = .ok (.getstatic 54, 3) := by decide +kernel
theorem dX1_isCommandRead_67 : decode cX1_isCommandRead 67 = .ok (.iload_n 1, 1) := by decide +kernel
theorem dX1_isCommandRead_68 : decode cX1_isCommandRead 68 = .ok (.iaload, 1) := by decide +kernel
theorem dX1_isCommandRead_69 : decode cX1_isCommandRead 69 = .ok (.invokevirtual 57, 3) := by decide +kernel
theorem dX1_isCommandRead_72 : decode cX1_isCommandRead 72 = .ok (.ifCond .ne 5, 3) := by decide +kernel
theorem dX1_isCommandRead_75 : decode cX1_isCommandRead 75 = .ok (.iconst 0, 1) := by decide +kernel
theorem dX1_isCommandRead_76 : decode cX1_isCommandRead 76 = .ok (.ireturn, 1) := by decide +kernel
theorem dX1_isCommandRead_77 : decode cX1_isCommandRead 77 = .ok (.aload_n 0, 1) := by decide +kernel
theorem dX1_isCommandRead_78 : decode cX1_isCommandRead 78 = .ok (.getfield 61, 3) := by decide +kernel
theorem dX1_isCommandRead_81 : decode cX1_isCommandRead 81 = .ok (.istore_n 2, 1) := by decide +kernel
theorem dX1_isCommandRead_82 : decode cX1_isCommandRead 82 = .ok (.getstatic 51, 3) := by decide +kernel
theorem dX1_isCommandRead_85 : decode cX1_isCommandRead 85 = .ok (.iload_n 1, 1) := by decide +kernel
theorem dX1_isCommandRead_86 : decode cX1_isCommandRead 86 = .ok (.caload, 1) := by decide +kernel
theorem dX1_isCommandRead_87 : decode cX1_isCommandRead 87 = .ok (.ifCond .eq 17, 3) := by decide +kernel
theorem dX1_isCommandRead_90 : decode cX1_isCommandRead 90 = .ok (.aload_n 0, 1) := by decide +kernel
theorem dX1_isCommandRead_91 : decode cX1_isCommandRead 91 = .ok (.getstatic 51, 3) := by decide +kernel
theorem dX1_isCommandRead_94 : decode cX1_isCommandRead 94 = .ok (.iload_n 1, 1) := by decide +kernel
theorem dX1_isCommandRead_95 : decode cX1_isCommandRead 95 = .ok (.caload, 1) := by decide +kernel
theorem dX1_isCommandRead_96 : decode cX1_isCommandRead 96 = .ok (.invokevirtual 39, 3) := by decide +kernel
theorem dX1_isCommandRead_99 : decode cX1_isCommandRead 99 = .ok (.ifCond .ne 5, 3) := by decide +kernel
theorem dX1_isCommandRead_102 : decode cX1_isCommandRead 102 = .ok (.iconst 0, 1) := by decide +kernel
theorem dX1_isCommandRead_103 : decode cX1_isCommandRead 103 = .ok (.ireturn, 1) := by decide +kernel
theorem dX1_isCommandRead_104 : decode cX1_isCommandRead 104 = .ok (.aload_n 0, 1) := by decide +kernel
theorem dX1_isCommandRead_105 : decode cX1_isCommandRead 105 = .ok (.getstatic 64, 3) := by decide +kernel
theorem dX1_isCommandRead_108 : decode cX1_isCommandRead 108 = .ok (.iload_n 1, 1) := by decide +kernel
theorem dX1_isCommandRead_109 : decode cX1_isCommandRead 109 = .ok (.iaload, 1) := by decide +kernel
theorem dX1_isCommandRead_110 : decode cX1_isCommandRead 110 = .ok (.invokevirtual 57, 3) := by decide +kernel
theorem dX1_isCommandRead_113 : decode cX1_isCommandRead 113 = .ok (.ifCond .ne 5, 3) := by decide +kernel
theorem dX1_isCommandRead_116 : decode cX1_isCommandRead 116 = .ok (.iconst 0, 1) := by decide +kernel
theorem dX1_isCommandRead_117 : decode cX1_isCommandRead 117 = .ok (.ireturn, 1) := by decide +kernel
theorem dX1_isCommandRead_118 : decode cX1_isCommandRead 118 = .ok (.aload_n 0, 1) := by decide +kernel
theorem dX1_isCommandRead_119 : decode cX1_isCommandRead 119 = .ok (.getfield 15, 3) := by decide +kernel
theorem dX1_isCommandRead_122 : decode cX1_isCommandRead 122 = .ok (.aload_n 0, 1) := by decide +kernel
theorem dX1_isCommandRead_123 : decode cX1_isCommandRead 123 = .ok (.getfield 29, 3) := by decide +kernel
theorem dX1_isCommandRead_126 : decode cX1_isCommandRead 126 = .ok (.iload_n 1, 1) := by decide +kernel
theorem dX1_isCommandRead_127 : decode cX1_isCommandRead 127 = .ok (.iastore, 1) := by decide +kernel
theorem dX1_isCommandRead_128 : decode cX1_isCommandRead 128 = .ok (.aload_n 0, 1) := by decide +kernel
theorem dX1_isCommandRead_129 : decode cX1_isCommandRead 129 = .ok (.getfield 19, 3) := by decide +kernel
theorem dX1_isCommandRead_132 : decode cX1_isCommandRead 132 = .ok (.aload_n 0, 1) := by decide +kernel
theorem dX1_isCommandRead_133 : decode cX1_isCommandRead 133 = .ok (.getfield 29, 3) := by decide +kernel
theorem dX1_isCommandRead_136 : decode cX1_isCommandRead 136 = .ok (.iload_n 2, 1) := by decide +kernel
theorem dX1_isCommandRead_137 : decode cX1_isCommandRead 137 = .ok (.iastore, 1) := by decide +kernel
theorem dX1_isCommandRead_138 : decode cX1_isCommandRead 138 = .ok (.aload_n 0, 1) := by decide +kernel
theorem dX1_isCommandRead_139 : decode cX1_isCommandRead 139 = .ok (.getfield 22, 3) := by decide +kernel
theorem dX1_isCommandRead_142 : decode cX1_isCommandRead 142 = .ok (.aload_n 0, 1) := by decide +kernel
theorem dX1_isCommandRead_143 : decode cX1_isCommandRead 143 = .ok (.getfield 29, 3) := by decide +kernel
theorem dX1_isCommandRead_146 : decode cX1_isCommandRead 146 = .ok (.aload_n 0, 1) := by decide +kernel
theorem dX1_isCommandRead_147 : decode cX1_isCommandRead 147 = .ok (.getfield 61, 3) := by decide +kernel
theorem dX1_isCommandRead_150 : decode cX1_isCommandRead 150 = .ok (.iastore, 1) := by decide +kernel
theorem dX1_isCommandRead_151 : decode cX1_isCommandRead 151 = .ok (.aload_n 0, 1) := by decide +kernel
theorem dX1_isCommandRead_152 : decode cX1_isCommandRead 152 = .ok (.dup, 1) := by decide +kernel
theorem dX1_isCommandRead_153 : decode cX1_isCommandRead 153 = .ok (.getfield 29, 3) := by decide +kernel
theorem dX1_isCommandRead_156 : decode cX1_isCommandRead 156 = .ok (.iconst 1, 1) := by decide +kernel
theorem dX1_isCommandRead_157 : decode cX1_isCommandRead 157 = .ok (.iadd, 1) := by decide +kernel
theorem dX1_isCommandRead_158 : decode cX1_isCommandRead 158 = .ok (.putfield 29, 3) := by decide +kernel
theorem dX1_isCommandRead_161 : decode cX1_isCommandRead 161 = .ok (.iconst 1, 1) := by decide +kernel
theorem dX1_isCommandRead_162 : decode cX1_isCommandRead 162 = .ok (.ireturn, 1) := by decide +kernel
theorem dX1_isMarkRead_0 : decode cX1_isMarkRead 0 = .ok (.aload_n 0, 1) := by decide +kernel
theorem dX1_isMarkRead_1 : decode cX1_isMarkRead 1 = .ok (.getfield 25, 3) := by decide +kernel
theorem dX1_isMarkRead_4 : decode cX1_isMarkRead 4 = .ok (.aload_n 0, 1) := by decide +kernel
theorem dX1_isMarkRead_5 : decode cX1_isMarkRead 5 = .ok (.getfield 36, 3) := by decide +kernel
theorem dX1_isMarkRead_8 : decode cX1_isMarkRead 8 = .ok (.if_icmp .ge 16, 3) := by decide +kernel
theorem dX1_isMarkRead_11 : decode cX1_isMarkRead 11 = .ok (.aload_n 0, 1) := by decide +kernel
theorem dX1_isMarkRead_12 : decode cX1_isMarkRead 12 = .ok (.getfield 9, 3) := by decide +kernel
theorem dX1_isMarkRead_15 : decode cX1_isMarkRead 15 = .ok (.aload_n 0, 1) := by decide +kernel
theorem dX1_isMarkRead_16 : decode cX1_isMarkRead 16 = .ok (.getfield 25, 3) := by decide +kernel
theorem dX1_isMarkRead_19 : decode cX1_isMarkRead 19 = .ok (.caload, 1) := by decide +kernel
theorem dX1_isMarkRead_20 : decode cX1_isMarkRead 20 = .ok (.iload_n 1, 1) := by decide +kernel
theorem dX1_isMarkRead_21 : decode cX1_isMarkRead 21 = .ok (.if_icmp .eq 5, 3) := by decide +kernel
theorem dX1_isMarkRead_24 : decode cX1_isMarkRead 24 = .ok (.iconst 0, 1) := by decide +kernel
theorem dX1_isMarkRead_25 : decode cX1_isMarkRead 25 = .ok (.ireturn, 1) := by decide +kernel
theorem dX1_isMarkRead_26 : decode cX1_isMarkRead 26 = .ok (.aload_n 0, 1) := by decide +kernel
theorem dX1_isMarkRead_27 : decode cX1_isMarkRead 27 = .ok (.dup, 1) := by decide +kernel
theorem dX1_isMarkRead_28 : decode cX1_isMarkRead 28 = .ok (.getfield 25, 3) := by decide +kernel
theorem dX1_isMarkRead_31 : decode cX1_isMarkRead 31 = .ok (.iconst 1, 1) := by decide +kernel
theorem dX1_isMarkRead_32 : decode cX1_isMarkRead 32 = .ok (.iadd, 1) := by decide +kernel
theorem dX1_isMarkRead_33 : decode cX1_isMarkRead 33 = .ok (.putfield 25, 3) := by decide +kernel
theorem dX1_isMarkRead_36 : decode cX1_isMarkRead 36 = .ok (.iconst 1, 1) := by decide +kernel
theorem dX1_isMarkRead_37 : decode cX1_isMarkRead 37 = .ok (.ireturn, 1) := by decide +kernel
theorem dX1_isNumberRead_0 : decode cX1_isNumberRead 0 = .ok (.aload_n 0, 1) := by decide +kernel
theorem dX1_isNumberRead_1 : decode cX1_isNumberRead 1 = .ok (.iconst 0, 1) := by decide +kernel
theorem dX1_isNumberRead_2 : decode cX1_isNumberRead 2 = .ok (.putfield 61, 3) := by decide +kernel
theorem dX1_isNumberRead_5 : decode cX1_isNumberRead 5 = .ok (.iconst 0, 1) := by decide +kernel
theorem dX1_isNumberRead_6 : decode cX1_isNumberRead 6 = .ok (.istore_n 2, 1) := by decide +kernel
theorem dX1_isNumberRead_7 : decode cX1_isNumberRead 7 = .ok (.iload_n 2, 1) := by decide +kernel
theorem dX1_isNumberRead_8 : decode cX1_isNumberRead 8 = .ok (.iload_n 1, 1) := by decide +kernel
theorem dX1_isNumberRead_9 : decode cX1_isNumberRead 9 = .ok (.if_icmp .ge 50, 3) := by decide +kernel
theorem dX1_isNumberRead_12 : decode cX1_isNumberRead 12 = .ok (.aload_n 0, 1) := by decide +kernel
theorem dX1_isNumberRead_13 : decode cX1_isNumberRead 13 = .ok (.invokevirtual 67, 3) := by decide +kernel
theorem dX1_isNumberRead_16 : decode cX1_isNumberRead 16 = .ok (.ifCond .eq 43, 3) := by decide +kernel
theorem dX1_isNumberRead_19 : decode cX1_isNumberRead 19 = .ok (.aload_n 0, 1) := by decide +kernel
theorem dX1_isNumberRead_20 : decode cX1_isNumberRead 20 = .ok (.bipush 10, 2) := by decide +kernel
theorem dX1_isNumberRead_22 : decode cX1_isNumberRead 22 = .ok (.aload_n 0, 1) := by decide +kernel
theorem dX1_isNumberRead_23 : decode cX1_isNumberRead 23 = .ok (.getfield 61, 3) := by decide +kernel
theorem dX1_isNumberRead_26 : decode cX1_isNumberRead 26 = .ok (.imul, 1) := by decide +kernel
theorem dX1_isNumberRead_27 : decode cX1_isNumberRead 27 = .ok (.aload_n 0, 1) := by decide +kernel
theorem dX1_isNumberRead_28 : decode cX1_isNumberRead 28 = .ok (.getfield 9, 3) := by decide +kernel
theorem dX1_isNumberRead_31 : decode cX1_isNumberRead 31 = .ok (.aload_n 0, 1) := by decide +kernel
theorem dX1_isNumberRead_32 : decode cX1_isNumberRead 32 = .ok (.getfield 25, 3) := by decide +kernel
theorem dX1_isNumberRead_35 : decode cX1_isNumberRead 35 = .ok (.caload, 1) := by decide +kernel
theorem dX1_isNumberRead_36 : decode cX1_isNumberRead 36 = .ok (.iadd, 1) := by decide +kernel
theorem dX1_isNumberRead_37 : decode cX1_isNumberRead 37 = .ok (.bipush 48, 2) := by decide +kernel
theorem dX1_isNumberRead_39 : decode cX1_isNumberRead 39 = .ok (.isub, 1) := by decide +kernel
theorem dX1_isNumberRead_40 : decode cX1_isNumberRead 40 = .ok (.putfield 61, 3) := by decide +kernel
theorem dX1_isNumberRead_43 : decode cX1_isNumberRead 43 = .ok (.aload_n 0, 1) := by decide +kernel
theorem dX1_isNumberRead_44 : decode cX1_isNumberRead 44 = .ok (.dup, 1) := by decide +kernel
theorem dX1_isNumberRead_45 : decode cX1_isNumberRead 45 = .ok (.getfield 25, 3) := by decide +kernel
theorem dX1_isNumberRead_48 : decode cX1_isNumberRead 48 = .ok (.iconst 1, 1) := by decide +kernel
theorem dX1_isNumberRead_49 : decode cX1_isNumberRead 49 = .ok (.iadd, 1) := by decide +kernel
theorem dX1_isNumberRead_50 : decode cX1_isNumberRead 50 = .ok (.putfield 25, 3) := by decide +kernel
theorem dX1_isNumberRead_53 : decode cX1_isNumberRead 53 = .ok (.iinc 2 1, 3) := by decide +kernel
theorem dX1_isNumberRead_56 : decode cX1_isNumberRead 56 = .ok (.goto (-49), 3) := by decide +kernel
theorem dX1_isNumberRead_59 : decode cX1_isNumberRead 59 = .ok (.iload_n 2, 1) := by decide +kernel
theorem dX1_isNumberRead_60 : decode cX1_isNumberRead 60 = .ok (.ifCond .gt 7, 3) := by decide +kernel
theorem dX1_isNumberRead_63 : decode cX1_isNumberRead 63 = .ok (.iload_n 1, 1) := by decide +kernel
theorem dX1_isNumberRead_64 : decode cX1_isNumberRead 64 = .ok (.ifCond .ne 7, 3) := by decide +kernel
theorem dX1_isNumberRead_67 : decode cX1_isNumberRead 67 = .ok (.iconst 1, 1) := by decide +kernel
theorem dX1_isNumberRead_68 : decode cX1_isNumberRead 68 = .ok (.goto 4, 3) := by decide +kernel
theorem dX1_isNumberRead_71 : decode cX1_isNumberRead 71 = .ok (.iconst 0, 1) := by decide +kernel
theorem dX1_isNumberRead_72 : decode cX1_isNumberRead 72 = .ok (.ireturn, 1) := by decide +kernel
theorem dX1_isDigitNext_0 : decode cX1_isDigitNext 0 = .ok (.aload_n 0, 1) := by decide +kernel
theorem dX1_isDigitNext_1 : decode cX1_isDigitNext 1 = .ok (.getfield 25, 3) := by decide +kernel
theorem dX1_isDigitNext_4 : decode cX1_isDigitNext 4 = .ok (.aload_n 0, 1) := by decide +kernel
theorem dX1_isDigitNext_5 : decode cX1_isDigitNext 5 = .ok (.getfield 36, 3) := by decide +kernel
theorem dX1_isDigitNext_8 : decode cX1_isDigitNext 8 = .ok (.if_icmp .ge 35, 3) := by decide +kernel
theorem dX1_isDigitNext_11 : decode cX1_isDigitNext 11 = .ok (.aload_n 0, 1) := by decide +kernel
theorem dX1_isDigitNext_12 : decode cX1_isDigitNext 12 = .ok (.getfield 9, 3) := by decide +kernel
theorem dX1_isDigitNext_15 : decode cX1_isDigitNext 15 = .ok (.aload_n 0, 1) := by decide +kernel
theorem dX1_isDigitNext_16 : decode cX1_isDigitNext 16 = .ok (.getfield 25, 3) := by decide +kernel
theorem dX1_isDigitNext_19 : decode cX1_isDigitNext 19 = .ok (.caload, 1) := by decide +kernel
theorem dX1_isDigitNext_20 : decode cX1_isDigitNext 20 = .ok (.bipush 48, 2) := by decide +kernel
theorem dX1_isDigitNext_22 : decode cX1_isDigitNext 22 = .ok (.if_icmp .lt 21, 3) := by decide +kernel
theorem dX1_isDigitNext_25 : decode cX1_isDigitNext 25 = .ok (.aload_n 0, 1) := by decide +kernel
theorem dX1_isDigitNext_26 : decode cX1_isDigitNext 26 = .ok (.getfield 9, 3) := by decide +kernel
theorem dX1_isDigitNext_29 : decode cX1_isDigitNext 29 = .ok (.aload_n 0, 1) := by decide +kernel
theorem dX1_isDigitNext_30 : decode cX1_isDigitNext 30 = .ok (.getfield 25, 3) := by decide +kernel
theorem dX1_isDigitNext_33 : decode cX1_isDigitNext 33 = .ok (.caload, 1) := by decide +kernel
theorem dX1_isDigitNext_34 : decode cX1_isDigitNext 34 = .ok (.bipush 57, 2) := by decide +kernel
theorem dX1_isDigitNext_36 : decode cX1_isDigitNext 36 = .ok (.if_icmp .gt 7, 3) := by decide +kernel
theorem dX1_isDigitNext_39 : decode cX1_isDigitNext 39 = .ok (.iconst 1, 1) := by decide +kernel
theorem dX1_isDigitNext_40 : decode cX1_isDigitNext 40 = .ok (.goto 4, 3) := by decide +kernel
theorem dX1_isDigitNext_43 : decode cX1_isDigitNext 43 = .ok (.iconst 0, 1) := by decide +kernel
theorem dX1_isDigitNext_44 : decode cX1_isDigitNext 44 = .ok (.ireturn, 1) := by decide +kernel
theorem dX2_init_0 : decode cX2_init 0 = .ok (.aload_n 0, 1) := by decide +kernel
theorem dX2_init_1 : decode cX2_init 1 = .ok (.invokespecial 3, 3) := by decide +kernel
theorem dX2_init_4 : decode cX2_init 4 = .ok (.aload_n 0, 1) := by decide +kernel
theorem dX2_init_5 : decode cX2_init 5 = .ok (.bipush 9, 2) := by decide +kernel
theorem dX2_init_7 : decode cX2_init 7 = .ok (.anewarray 11, 3) := by decide +kernel
theorem dX2_init_10 : decode cX2_init 10 = .ok (.putfield 13, 3) := by decide +kernel
theorem dX2_init_13 : decode cX2_init 13 = .ok (.iconst 0, 1) := by decide +kernel
theorem dX2_init_14 : decode cX2_init 14 = .ok (.istore_n 1, 1) := by decide +kernel
theorem dX2_init_15 : decode cX2_init 15 = .ok (.iload_n 1, 1) := by decide +kernel
theorem dX2_init_16 : decode cX2_init 16 = .ok (.bipush 9, 2) := by decide +kernel
theorem dX2_init_18 : decode cX2_init 18 = .ok (.if_icmp .ge 22, 3) := by decide +kernel
theorem dX2_init_21 : decode cX2_init 21 = .ok (.aload_n 0, 1) := by decide +kernel
theorem dX2_init_22 : decode cX2_init 22 = .ok (.getfield 13, 3) := by decide +kernel
theorem dX2_init_25 : decode cX2_init 25 = .ok (.iload_n 1, 1) := by decide +kernel
theorem dX2_init_26 : decode cX2_init 26 = .ok (.new 11, 3) := by decide +kernel
theorem dX2_init_29 : decode cX2_init 29 = .ok (.dup, 1) := by decide +kernel
theorem dX2_init_30 : decode cX2_init 30 = .ok (.invokespecial 17, 3) := by decide +kernel
theorem dX2_init_33 : decode cX2_init 33 = .ok (.aastore, 1) := by decide +kernel
theorem dX2_init_34 : decode cX2_init 34 = .ok (.iinc 1 1, 3) := by decide +kernel
theorem dX2_init_37 : decode cX2_init 37 = .ok (.goto (-22), 3) := by decide +kernel
theorem dX2_init_40 : decode cX2_init 40 = .ok (.return_, 1) := by decide +kernel
theorem dX2_note_0 : decode cX2_note 0 = .ok (.aload_n 0, 1) := by decide +kernel
theorem dX2_note_1 : decode cX2_note 1 = .ok (.getfield 13, 3) := by decide +kernel
theorem dX2_note_4 : decode cX2_note 4 = .ok (.aload_n 0, 1) := by decide +kernel
theorem dX2_note_5 : decode cX2_note 5 = .ok (.getfield 18, 3) := by decide +kernel
theorem dX2_note_8 : decode cX2_note 8 = .ok (.aaload, 1) := by decide +kernel
theorem dX2_note_9 : decode cX2_note 9 = .ok (.aload_n 1, 1) := by decide +kernel
theorem dX2_note_10 : decode cX2_note 10 = .ok (.invokevirtual 22, 3) := by decide +kernel
theorem dX2_note_13 : decode cX2_note 13 = .ok (.return_, 1) := by decide +kernel
theorem dX2_bringBackNoted_0 : decode cX2_bringBackNoted 0 = .ok (.aload_n 1, 1) := by decide +kernel
theorem dX2_bringBackNoted_1 : decode cX2_bringBackNoted 1 = .ok (.aload_n 0, 1) := by decide +kernel
theorem dX2_bringBackNoted_2 : decode cX2_bringBackNoted 2 = .ok (.getfield 13, 3) := by decide +kernel
theorem dX2_bringBackNoted_5 : decode cX2_bringBackNoted 5 = .ok (.aload_n 0, 1) := by decide +kernel
theorem dX2_bringBackNoted_6 : decode cX2_bringBackNoted 6 = .ok (.getfield 18, 3) := by decide +kernel
theorem dX2_bringBackNoted_9 : decode cX2_bringBackNoted 9 = .ok (.aaload, 1) := by decide +kernel
theorem dX2_bringBackNoted_10 : decode cX2_bringBackNoted 10 = .ok (.invokevirtual 22, 3) := by decide +kernel
theorem dX2_bringBackNoted_13 : decode cX2_bringBackNoted 13 = .ok (.return_, 1) := by decide +kernel
theorem dX2_keepNoted_0 : decode cX2_keepNoted 0 = .ok (.aload_n 0, 1) := by decide +kernel
theorem dX2_keepNoted_1 : decode cX2_keepNoted 1 = .ok (.aload_n 0, 1) := by decide +kernel
theorem dX2_keepNoted_2 : decode cX2_keepNoted 2 = .ok (.getfield 18, 3) := by decide +kernel
theorem dX2_keepNoted_5 : decode cX2_keepNoted 5 = .ok (.iconst 1, 1) := by decide +kernel
theorem dX2_keepNoted_6 : decode cX2_keepNoted 6 = .ok (.iadd, 1) := by decide +kernel
theorem dX2_keepNoted_7 : decode cX2_keepNoted 7 = .ok (.bipush 9, 2) := by decide +kernel
theorem dX2_keepNoted_9 : decode cX2_keepNoted 9 = .ok (.irem, 1) := by decide +kernel
theorem dX2_keepNoted_10 : decode cX2_keepNoted 10 = .ok (.putfield 18, 3) := by decide +kernel
theorem dX2_keepNoted_13 : decode cX2_keepNoted 13 = .ok (.aload_n 0, 1) := by decide +kernel
theorem dX2_keepNoted_14 : decode cX2_keepNoted 14 = .ok (.bipush 8, 2) := by decide +kernel
theorem dX2_keepNoted_16 : decode cX2_keepNoted 16 = .ok (.aload_n 0, 1) := by decide +kernel
theorem dX2_keepNoted_17 : decode cX2_keepNoted 17 = .ok (.getfield 26, 3) := by decide +kernel
theorem dX2_keepNoted_20 : decode cX2_keepNoted 20 = .ok (.iconst 1, 1) := by decide +kernel
theorem dX2_keepNoted_21 : decode cX2_keepNoted 21 = .ok (.iadd, 1) := by decide +kernel
theorem dX2_keepNoted_22 : decode cX2_keepNoted 22 = .ok (.invokestatic 29, 3) := by decide +kernel
theorem dX2_keepNoted_25 : decode cX2_keepNoted 25 = .ok (.putfield 26, 3) := by decide +kernel
theorem dX2_keepNoted_28 : decode cX2_keepNoted 28 = .ok (.return_, 1) := by decide +kernel
theorem dX2_bringBackLatest_0 : decode cX2_bringBackLatest 0 = .ok (.aload_n 0, 1) := by decide +kernel
theorem dX2_bringBackLatest_1 : decode cX2_bringBackLatest 1 = .ok (.aload_n 0, 1) := by decide +kernel
theorem dX2_bringBackLatest_2 : decode cX2_bringBackLatest 2 = .ok (.getfield 18, 3) := by decide +kernel
theorem dX2_bringBackLatest_5 : decode cX2_bringBackLatest 5 = .ok (.bipush 9, 2) := by decide +kernel
theorem dX2_bringBackLatest_7 : decode cX2_bringBackLatest 7 = .ok (.iadd, 1) := by decide +kernel
theorem dX2_bringBackLatest_8 : decode cX2_bringBackLatest 8 = .ok (.iconst 1, 1) := by decide +kernel
theorem dX2_bringBackLatest_9 : decode cX2_bringBackLatest 9 = .ok (.isub, 1) := by decide +kernel
theorem dX2_bringBackLatest_10 : decode cX2_bringBackLatest 10 = .ok (.bipush 9, 2) := by decide +kernel
theorem dX2_bringBackLatest_12 : decode cX2_bringBackLatest 12 = .ok (.irem, 1) := by decide +kernel
theorem dX2_bringBackLatest_13 : decode cX2_bringBackLatest 13 = .ok (.putfield 18, 3) := by decide +kernel
theorem dX2_bringBackLatest_16 : decode cX2_bringBackLatest 16 = .ok (.aload_n 0, 1) := by decide +kernel
theorem dX2_bringBackLatest_17 : decode cX2_bringBackLatest 17 = .ok (.dup, 1) := by decide +kernel
theorem dX2_bringBackLatest_18 : decode cX2_bringBackLatest 18 = .ok (.getfield 26, 3) := by decide +kernel
theorem dX2_bringBackLatest_21 : decode cX2_bringBackLatest 21 = .ok (.iconst 1, 1) := by decide +kernel
theorem dX2_bringBackLatest_22 : decode cX2_bringBackLatest 22 = .ok (.isub, 1) := by decide +kernel
theorem dX2_bringBackLatest_23 : decode cX2_bringBackLatest 23 = .ok (.putfield 26, 3) := by decide +kernel
theorem dX2_bringBackLatest_26 : decode cX2_bringBackLatest 26 = .ok (.aload_n 1, 1) := by decide +kernel
theorem dX2_bringBackLatest_27 : decode cX2_bringBackLatest 27 = .ok (.aload_n 0, 1) := by decide +kernel
theorem dX2_bringBackLatest_28 : decode cX2_bringBackLatest 28 = .ok (.getfield 13, 3) := by decide +kernel
theorem dX2_bringBackLatest_31 : decode cX2_bringBackLatest 31 = .ok (.aload_n 0, 1) := by decide +kernel
theorem dX2_bringBackLatest_32 : decode cX2_bringBackLatest 32 = .ok (.getfield 18, 3) := by decide +kernel
theorem dX2_bringBackLatest_35 : decode cX2_bringBackLatest 35 = .ok (.aaload, 1) := by decide +kernel
theorem dX2_bringBackLatest_36 : decode cX2_bringBackLatest 36 = .ok (.invokevirtual 22, 3) := by decide +kernel
theorem dX2_bringBackLatest_39 : decode cX2_bringBackLatest 39 = .ok (.return_, 1) := by decide +kernel
theorem dX2_forget_0 : decode cX2_forget 0 = .ok (.aload_n 0, 1) := by decide +kernel
theorem dX2_forget_1 : decode cX2_forget 1 = .ok (.iconst 0, 1) := by decide +kernel
theorem dX2_forget_2 : decode cX2_forget 2 = .ok (.putfield 26, 3) := by decide +kernel
theorem dX2_forget_5 : decode cX2_forget 5 = .ok (.return_, 1) := by decide +kernel
theorem dX3_init_0 : decode cX3_init 0 = .ok (.aload_n 0, 1) := by decide +kernel
theorem dX3_init_1 : decode cX3_init 1 = .ok (.invokespecial 3, 3) := by decide +kernel
theorem dX3_init_4 : decode cX3_init 4 = .ok (.return_, 1) := by decide +kernel
theorem dX3_copyFrom_0 : decode cX3_copyFrom 0 = .ok (.aload_n 0, 1) := by decide +kernel
theorem dX3_copyFrom_1 : decode cX3_copyFrom 1 = .ok (.aload_n 1, 1) := by decide +kernel
theorem dX3_copyFrom_2 : decode cX3_copyFrom 2 = .ok (.getfield 9, 3) := by decide +kernel
theorem dX3_copyFrom_5 : decode cX3_copyFrom 5 = .ok (.putfield 9, 3) := by decide +kernel
theorem dX3_copyFrom_8 : decode cX3_copyFrom 8 = .ok (.aload_n 0, 1) := by decide +kernel
theorem dX3_copyFrom_9 : decode cX3_copyFrom 9 = .ok (.aload_n 1, 1) := by decide +kernel
theorem dX3_copyFrom_10 : decode cX3_copyFrom 10 = .ok (.getfield 15, 3) := by decide +kernel
theorem dX3_copyFrom_13 : decode cX3_copyFrom 13 = .ok (.putfield 15, 3) := by decide +kernel
theorem dX3_copyFrom_16 : decode cX3_copyFrom 16 = .ok (.aload_n 0, 1) := by decide +kernel
theorem dX3_copyFrom_17 : decode cX3_copyFrom 17 = .ok (.aload_n 1, 1) := by decide +kernel
theorem dX3_copyFrom_18 : decode cX3_copyFrom 18 = .ok (.getfield 18, 3) := by decide +kernel
theorem dX3_copyFrom_21 : decode cX3_copyFrom 21 = .ok (.putfield 18, 3) := by decide +kernel
theorem dX3_copyFrom_24 : decode cX3_copyFrom 24 = .ok (.aload_n 0, 1) := by decide +kernel
theorem dX3_copyFrom_25 : decode cX3_copyFrom 25 = .ok (.aload_n 1, 1) := by decide +kernel
theorem dX3_copyFrom_26 : decode cX3_copyFrom 26 = .ok (.getfield 21, 3) := by decide +kernel
theorem dX3_copyFrom_29 : decode cX3_copyFrom 29 = .ok (.putfield 21, 3) := by decide +kernel
theorem dX3_copyFrom_32 : decode cX3_copyFrom 32 = .ok (.aload_n 0, 1) := by decide +kernel
theorem dX3_copyFrom_33 : decode cX3_copyFrom 33 = .ok (.aload_n 1, 1) := by decide +kernel
theorem dX3_copyFrom_34 : decode cX3_copyFrom 34 = .ok (.getfield 24, 3) := by decide +kernel
theorem dX3_copyFrom_37 : decode cX3_copyFrom 37 = .ok (.putfield 24, 3) := by decide +kernel
theorem dX3_copyFrom_40 : decode cX3_copyFrom 40 = .ok (.aload_n 0, 1) := by decide +kernel
theorem dX3_copyFrom_41 : decode cX3_copyFrom 41 = .ok (.aload_n 1, 1) := by decide +kernel
theorem dX3_copyFrom_42 : decode cX3_copyFrom 42 = .ok (.getfield 27, 3) := by decide +kernel
theorem dX3_copyFrom_45 : decode cX3_copyFrom 45 = .ok (.putfield 27, 3) := by decide +kernel
theorem dX3_copyFrom_48 : decode cX3_copyFrom 48 = .ok (.aload_n 0, 1) := by decide +kernel
theorem dX3_copyFrom_49 : decode cX3_copyFrom 49 = .ok (.aload_n 1, 1) := by decide +kernel
theorem dX3_copyFrom_50 : decode cX3_copyFrom 50 = .ok (.getfield 30, 3) := by decide +kernel
theorem dX3_copyFrom_53 : decode cX3_copyFrom 53 = .ok (.putfield 30, 3) := by decide +kernel
theorem dX3_copyFrom_56 : decode cX3_copyFrom 56 = .ok (.aload_n 0, 1) := by decide +kernel
theorem dX3_copyFrom_57 : decode cX3_copyFrom 57 = .ok (.aload_n 1, 1) := by decide +kernel
theorem dX3_copyFrom_58 : decode cX3_copyFrom 58 = .ok (.getfield 33, 3) := by decide +kernel
theorem dX3_copyFrom_61 : decode cX3_copyFrom 61 = .ok (.putfield 33, 3) := by decide +kernel
theorem dX3_copyFrom_64 : decode cX3_copyFrom 64 = .ok (.aload_n 0, 1) := by decide +kernel
theorem dX3_copyFrom_65 : decode cX3_copyFrom 65 = .ok (.aload_n 1, 1) := by decide +kernel
theorem dX3_copyFrom_66 : decode cX3_copyFrom 66 = .ok (.getfield 37, 3) := by decide +kernel
theorem dX3_copyFrom_69 : decode cX3_copyFrom 69 = .ok (.putfield 37, 3) := by decide +kernel
theorem dX3_copyFrom_72 : decode cX3_copyFrom 72 = .ok (.return_, 1) := by decide +kernel
theorem dX3_number_0 : decode cX3_number 0 = .ok (.iload_n 1, 1) := by decide +kernel
theorem dX3_number_1 : decode cX3_number 1 = .ok (.tableswitch 78 0 6 #[43, 48, 53, 58, 63, 68, 73], 43) := by decide +kernel
theorem dX3_number_44 : decode cX3_number 44 = .ok (.aload_n 0, 1) := by decide +kernel
theorem dX3_number_45 : decode cX3_number 45 = .ok (.getfield 9, 3) := by decide +kernel
theorem dX3_number_48 : decode cX3_number 48 = .ok (.ireturn, 1) := by decide +kernel
theorem dX3_number_49 : decode cX3_number 49 = .ok (.aload_n 0, 1) := by decide +kernel
theorem dX3_number_50 : decode cX3_number 50 = .ok (.getfield 15, 3) := by decide +kernel
theorem dX3_number_53 : decode cX3_number 53 = .ok (.ireturn, 1) := by decide +kernel
theorem dX3_number_54 : decode cX3_number 54 = .ok (.aload_n 0, 1) := by decide +kernel
theorem dX3_number_55 : decode cX3_number 55 = .ok (.getfield 18, 3) := by decide +kernel
theorem dX3_number_58 : decode cX3_number 58 = .ok (.ireturn, 1) := by decide +kernel
theorem dX3_number_59 : decode cX3_number 59 = .ok (.aload_n 0, 1) := by decide +kernel
theorem dX3_number_60 : decode cX3_number 60 = .ok (.getfield 21, 3) := by decide +kernel
theorem dX3_number_63 : decode cX3_number 63 = .ok (.ireturn, 1) := by decide +kernel
theorem dX3_number_64 : decode cX3_number 64 = .ok (.aload_n 0, 1) := by decide +kernel
theorem dX3_number_65 : decode cX3_number 65 = .ok (.getfield 24, 3) := by decide +kernel
theorem dX3_number_68 : decode cX3_number 68 = .ok (.ireturn, 1) := by decide +kernel
theorem dX3_number_69 : decode cX3_number 69 = .ok (.aload_n 0, 1) := by decide +kernel
theorem dX3_number_70 : decode cX3_number 70 = .ok (.getfield 27, 3) := by decide +kernel
theorem dX3_number_73 : decode cX3_number 73 = .ok (.ireturn, 1) := by decide +kernel
theorem dX3_number_74 : decode cX3_number 74 = .ok (.aload_n 0, 1) := by decide +kernel
theorem dX3_number_75 : decode cX3_number 75 = .ok (.invokevirtual 40, 3) := by decide +kernel
theorem dX3_number_78 : decode cX3_number 78 = .ok (.ireturn, 1) := by decide +kernel
theorem dX3_number_79 : decode cX3_number 79 = .ok (.aload_n 0, 1) := by decide +kernel
theorem dX3_number_80 : decode cX3_number 80 = .ok (.getfield 37, 3) := by decide +kernel
theorem dX3_number_83 : decode cX3_number 83 = .ok (.ireturn, 1) := by decide +kernel
theorem dX3_dogStillLets_0 : decode cX3_dogStillLets 0 = .ok (.aload_n 0, 1) := by decide +kernel
theorem dX3_dogStillLets_1 : decode cX3_dogStillLets 1 = .ok (.getfield 15, 3) := by decide +kernel
theorem dX3_dogStillLets_4 : decode cX3_dogStillLets 4 = .ok (.ifCond .eq 10, 3) := by decide +kernel
theorem dX3_dogStillLets_7 : decode cX3_dogStillLets 7 = .ok (.aload_n 0, 1) := by decide +kernel
theorem dX3_dogStillLets_8 : decode cX3_dogStillLets 8 = .ok (.getfield 33, 3) := by decide +kernel
theorem dX3_dogStillLets_11 : decode cX3_dogStillLets 11 = .ok (.ifCond .eq 6, 3) := by decide +kernel
theorem dX3_dogStillLets_14 : decode cX3_dogStillLets 14 = .ok (.bipush 99, 2) := by decide +kernel
theorem dX3_dogStillLets_16 : decode cX3_dogStillLets 16 = .ok (.ireturn, 1) := by decide +kernel
theorem dX3_dogStillLets_17 : decode cX3_dogStillLets 17 = .ok (.aload_n 0, 1) := by decide +kernel
theorem dX3_dogStillLets_18 : decode cX3_dogStillLets 18 = .ok (.getfield 15, 3) := by decide +kernel
theorem dX3_dogStillLets_21 : decode cX3_dogStillLets 21 = .ok (.iconst 2, 1) := by decide +kernel
theorem dX3_dogStillLets_22 : decode cX3_dogStillLets 22 = .ok (.if_icmp .ne 7, 3) := by decide +kernel
theorem dX3_dogStillLets_25 : decode cX3_dogStillLets 25 = .ok (.iconst 0, 1) := by decide +kernel
theorem dX3_dogStillLets_26 : decode cX3_dogStillLets 26 = .ok (.goto 13, 3) := by decide +kernel
theorem dX3_dogStillLets_29 : decode cX3_dogStillLets 29 = .ok (.iconst 0, 1) := by decide +kernel
theorem dX3_dogStillLets_30 : decode cX3_dogStillLets 30 = .ok (.iconst 2, 1) := by decide +kernel
theorem dX3_dogStillLets_31 : decode cX3_dogStillLets 31 = .ok (.aload_n 0, 1) := by decide +kernel
theorem dX3_dogStillLets_32 : decode cX3_dogStillLets 32 = .ok (.getfield 30, 3) := by decide +kernel
theorem dX3_dogStillLets_35 : decode cX3_dogStillLets 35 = .ok (.isub, 1) := by decide +kernel
theorem dX3_dogStillLets_36 : decode cX3_dogStillLets 36 = .ok (.invokestatic 44, 3) := by decide +kernel
theorem dX3_dogStillLets_39 : decode cX3_dogStillLets 39 = .ok (.ireturn, 1) := by decide +kernel
theorem dX3_takeSack_0 : decode cX3_takeSack 0 = .ok (.aload_n 0, 1) := by decide +kernel
theorem dX3_takeSack_1 : decode cX3_takeSack 1 = .ok (.dup, 1) := by decide +kernel
theorem dX3_takeSack_2 : decode cX3_takeSack 2 = .ok (.getfield 21, 3) := by decide +kernel
theorem dX3_takeSack_5 : decode cX3_takeSack 5 = .ok (.iconst 1, 1) := by decide +kernel
theorem dX3_takeSack_6 : decode cX3_takeSack 6 = .ok (.isub, 1) := by decide +kernel
theorem dX3_takeSack_7 : decode cX3_takeSack 7 = .ok (.putfield 21, 3) := by decide +kernel
theorem dX3_takeSack_10 : decode cX3_takeSack 10 = .ok (.aload_n 0, 1) := by decide +kernel
theorem dX3_takeSack_11 : decode cX3_takeSack 11 = .ok (.dup, 1) := by decide +kernel
theorem dX3_takeSack_12 : decode cX3_takeSack 12 = .ok (.getfield 24, 3) := by decide +kernel
theorem dX3_takeSack_15 : decode cX3_takeSack 15 = .ok (.iconst 3, 1) := by decide +kernel
theorem dX3_takeSack_16 : decode cX3_takeSack 16 = .ok (.iadd, 1) := by decide +kernel
theorem dX3_takeSack_17 : decode cX3_takeSack 17 = .ok (.putfield 24, 3) := by decide +kernel
theorem dX3_takeSack_20 : decode cX3_takeSack 20 = .ok (.aload_n 0, 1) := by decide +kernel
theorem dX3_takeSack_21 : decode cX3_takeSack 21 = .ok (.dup, 1) := by decide +kernel
theorem dX3_takeSack_22 : decode cX3_takeSack 22 = .ok (.getfield 27, 3) := by decide +kernel
theorem dX3_takeSack_25 : decode cX3_takeSack 25 = .ok (.iload_n 1, 1) := by decide +kernel
theorem dX3_takeSack_26 : decode cX3_takeSack 26 = .ok (.iconst 3, 1) := by decide +kernel
theorem dX3_takeSack_27 : decode cX3_takeSack 27 = .ok (.idiv, 1) := by decide +kernel
theorem dX3_takeSack_28 : decode cX3_takeSack 28 = .ok (.iadd, 1) := by decide +kernel
theorem dX3_takeSack_29 : decode cX3_takeSack 29 = .ok (.putfield 27, 3) := by decide +kernel
theorem dX3_takeSack_32 : decode cX3_takeSack 32 = .ok (.aload_n 0, 1) := by decide +kernel
theorem dX3_takeSack_33 : decode cX3_takeSack 33 = .ok (.dup, 1) := by decide +kernel
theorem dX3_takeSack_34 : decode cX3_takeSack 34 = .ok (.getfield 30, 3) := by decide +kernel
theorem dX3_takeSack_37 : decode cX3_takeSack 37 = .ok (.iconst 1, 1) := by decide +kernel
theorem dX3_takeSack_38 : decode cX3_takeSack 38 = .ok (.iadd, 1) := by decide +kernel
theorem dX3_takeSack_39 : decode cX3_takeSack 39 = .ok (.putfield 30, 3) := by decide +kernel
theorem dX3_takeSack_42 : decode cX3_takeSack 42 = .ok (.aload_n 0, 1) := by decide +kernel
theorem dX3_takeSack_43 : decode cX3_takeSack 43 = .ok (.dup, 1) := by decide +kernel
theorem dX3_takeSack_44 : decode cX3_takeSack 44 = .ok (.getfield 37, 3) := by decide +kernel
theorem dX3_takeSack_47 : decode cX3_takeSack 47 = .ok (.iconst 1, 1) := by decide +kernel
theorem dX3_takeSack_48 : decode cX3_takeSack 48 = .ok (.iadd, 1) := by decide +kernel
theorem dX3_takeSack_49 : decode cX3_takeSack 49 = .ok (.putfield 37, 3) := by decide +kernel
theorem dX3_takeSack_52 : decode cX3_takeSack 52 = .ok (.return_, 1) := by decide +kernel
theorem dX3_beginDay_0 : decode cX3_beginDay 0 = .ok (.aload_n 0, 1) := by decide +kernel
theorem dX3_beginDay_1 : decode cX3_beginDay 1 = .ok (.iconst 0, 1) := by decide +kernel
theorem dX3_beginDay_2 : decode cX3_beginDay 2 = .ok (.putfield 30, 3) := by decide +kernel
theorem dX3_beginDay_5 : decode cX3_beginDay 5 = .ok (.aload_n 0, 1) := by decide +kernel
theorem dX3_beginDay_6 : decode cX3_beginDay 6 = .ok (.iconst 0, 1) := by decide +kernel
theorem dX3_beginDay_7 : decode cX3_beginDay 7 = .ok (.putfield 33, 3) := by decide +kernel
theorem dX3_beginDay_10 : decode cX3_beginDay 10 = .ok (.return_, 1) := by decide +kernel
theorem dX3_beginWeek_0 : decode cX3_beginWeek 0 = .ok (.aload_n 0, 1) := by decide +kernel
theorem dX3_beginWeek_1 : decode cX3_beginWeek 1 = .ok (.bipush 20, 2) := by decide +kernel
theorem dX3_beginWeek_3 : decode cX3_beginWeek 3 = .ok (.aload_n 0, 1) := by decide +kernel
theorem dX3_beginWeek_4 : decode cX3_beginWeek 4 = .ok (.getfield 21, 3) := by decide +kernel
theorem dX3_beginWeek_7 : decode cX3_beginWeek 7 = .ok (.aload_n 0, 1) := by decide +kernel
theorem dX3_beginWeek_8 : decode cX3_beginWeek 8 = .ok (.getfield 18, 3) := by decide +kernel
theorem dX3_beginWeek_11 : decode cX3_beginWeek 11 = .ok (.iadd, 1) := by decide +kernel
theorem dX3_beginWeek_12 : decode cX3_beginWeek 12 = .ok (.invokestatic 50, 3) := by decide +kernel
theorem dX3_beginWeek_15 : decode cX3_beginWeek 15 = .ok (.putfield 21, 3) := by decide +kernel
theorem dX3_beginWeek_18 : decode cX3_beginWeek 18 = .ok (.return_, 1) := by decide +kernel
theorem dX3_writeDog_0 : decode cX3_writeDog 0 = .ok (.aload_n 0, 1) := by decide +kernel
theorem dX3_writeDog_1 : decode cX3_writeDog 1 = .ok (.getfield 33, 3) := by decide +kernel
theorem dX3_writeDog_4 : decode cX3_writeDog 4 = .ok (.ifCond .eq 13, 3) := by decide +kernel
theorem dX3_writeDog_7 : decode cX3_writeDog 7 = .ok (.aload_n 1, 1) := by decide +kernel
theorem dX3_writeDog_8 : decode cX3_writeDog 8 = .ok (.bipush 98, 2) := by decide +kernel
theorem dX3_writeDog_10 : decode cX3_writeDog 10 = .ok (.invokevirtual 53, 3) := by decide +kernel
theorem dX3_writeDog_13 : decode cX3_writeDog 13 = .ok (.pop, 1) := by decide +kernel
theorem dX3_writeDog_14 : decode cX3_writeDog 14 = .ok (.goto 36, 3) := by decide +kernel
theorem dX3_writeDog_17 : decode cX3_writeDog 17 = .ok (.aload_n 0, 1) := by decide +kernel
theorem dX3_writeDog_18 : decode cX3_writeDog 18 = .ok (.getfield 15, 3) := by decide +kernel
theorem dX3_writeDog_21 : decode cX3_writeDog 21 = .ok (.iconst 1, 1) := by decide +kernel
theorem dX3_writeDog_22 : decode cX3_writeDog 22 = .ok (.if_icmp .ne 13, 3) := by decide +kernel
theorem dX3_writeDog_25 : decode cX3_writeDog 25 = .ok (.aload_n 1, 1) := by decide +kernel
theorem dX3_writeDog_26 : decode cX3_writeDog 26 = .ok (.bipush 122, 2) := by decide +kernel
theorem dX3_writeDog_28 : decode cX3_writeDog 28 = .ok (.invokevirtual 53, 3) := by decide +kernel
theorem dX3_writeDog_31 : decode cX3_writeDog 31 = .ok (.pop, 1) := by decide +kernel
theorem dX3_writeDog_32 : decode cX3_writeDog 32 = .ok (.goto 18, 3) := by decide +kernel
theorem dX3_writeDog_35 : decode cX3_writeDog 35 = .ok (.aload_n 0, 1) := by decide +kernel
theorem dX3_writeDog_36 : decode cX3_writeDog 36 = .ok (.getfield 15, 3) := by decide +kernel
theorem dX3_writeDog_39 : decode cX3_writeDog 39 = .ok (.iconst 2, 1) := by decide +kernel
theorem dX3_writeDog_40 : decode cX3_writeDog 40 = .ok (.if_icmp .ne 10, 3) := by decide +kernel
theorem dX3_writeDog_43 : decode cX3_writeDog 43 = .ok (.aload_n 1, 1) := by decide +kernel
theorem dX3_writeDog_44 : decode cX3_writeDog 44 = .ok (.bipush 33, 2) := by decide +kernel
theorem dX3_writeDog_46 : decode cX3_writeDog 46 = .ok (.invokevirtual 53, 3) := by decide +kernel
theorem dX3_writeDog_49 : decode cX3_writeDog 49 = .ok (.pop, 1) := by decide +kernel
theorem dX3_writeDog_50 : decode cX3_writeDog 50 = .ok (.return_, 1) := by decide +kernel
theorem dX4_init_0 : decode cX4_init 0 = .ok (.aload_n 0, 1) := by decide +kernel
theorem dX4_init_1 : decode cX4_init 1 = .ok (.invokespecial 3, 3) := by decide +kernel
theorem dX4_init_4 : decode cX4_init 4 = .ok (.return_, 1) := by decide +kernel
theorem dX4_refuse_0 : decode cX4_refuse 0 = .ok (.aload_n 0, 1) := by decide +kernel
theorem dX4_refuse_1 : decode cX4_refuse 1 = .ok (.iload_n 1, 1) := by decide +kernel
theorem dX4_refuse_2 : decode cX4_refuse 2 = .ok (.putfield 9, 3) := by decide +kernel
theorem dX4_refuse_5 : decode cX4_refuse 5 = .ok (.aload_n 0, 1) := by decide +kernel
theorem dX4_refuse_6 : decode cX4_refuse 6 = .ok (.iload_n 2, 1) := by decide +kernel
theorem dX4_refuse_7 : decode cX4_refuse 7 = .ok (.putfield 15, 3) := by decide +kernel
theorem dX4_refuse_10 : decode cX4_refuse 10 = .ok (.aload_n 0, 1) := by decide +kernel
theorem dX4_refuse_11 : decode cX4_refuse 11 = .ok (.iconst 0, 1) := by decide +kernel
theorem dX4_refuse_12 : decode cX4_refuse 12 = .ok (.putfield 18, 3) := by decide +kernel
theorem dX4_refuse_15 : decode cX4_refuse 15 = .ok (.iconst (-1), 1) := by decide +kernel
theorem dX4_refuse_16 : decode cX4_refuse 16 = .ok (.ireturn, 1) := by decide +kernel
theorem dX5_init_0 : decode cX5_init 0 = .ok (.aload_n 0, 1) := by decide +kernel
theorem dX5_init_1 : decode cX5_init 1 = .ok (.invokespecial 3, 3) := by decide +kernel
theorem dX5_init_4 : decode cX5_init 4 = .ok (.aload_n 0, 1) := by decide +kernel
theorem dX5_init_5 : decode cX5_init 5 = .ok (.bipush 8, 2) := by decide +kernel
theorem dX5_init_7 : decode cX5_init 7 = .ok (.anewarray 9, 3) := by decide +kernel
theorem dX5_init_10 : decode cX5_init 10 = .ok (.putfield 11, 3) := by decide +kernel
theorem dX5_init_13 : decode cX5_init 13 = .ok (.aload_n 0, 1) := by decide +kernel
theorem dX5_init_14 : decode cX5_init 14 = .ok (.iconst 4, 1) := by decide +kernel
theorem dX5_init_15 : decode cX5_init 15 = .ok (.anewarray 17, 3) := by decide +kernel
theorem dX5_init_18 : decode cX5_init 18 = .ok (.putfield 19, 3) := by decide +kernel
theorem dX5_init_21 : decode cX5_init 21 = .ok (.aload_n 0, 1) := by decide +kernel
theorem dX5_init_22 : decode cX5_init 22 = .ok (.iconst 4, 1) := by decide +kernel
theorem dX5_init_23 : decode cX5_init 23 = .ok (.newarray .int, 2) := by decide +kernel
theorem dX5_init_25 : decode cX5_init 25 = .ok (.putfield 23, 3) := by decide +kernel
theorem dX5_init_28 : decode cX5_init 28 = .ok (.aload_n 0, 1) := by decide +kernel
theorem dX5_init_29 : decode cX5_init 29 = .ok (.bipush 100, 2) := by decide +kernel
theorem dX5_init_31 : decode cX5_init 31 = .ok (.putfield 27, 3) := by decide +kernel
theorem dX5_init_34 : decode cX5_init 34 = .ok (.aload_n 0, 1) := by decide +kernel
theorem dX5_init_35 : decode cX5_init 35 = .ok (.bipush 20, 2) := by decide +kernel
theorem dX5_init_37 : decode cX5_init 37 = .ok (.putfield 31, 3) := by decide +kernel
theorem dX5_init_40 : decode cX5_init 40 = .ok (.aload_n 0, 1) := by decide +kernel
theorem dX5_init_41 : decode cX5_init 41 = .ok (.iconst 3, 1) := by decide +kernel
theorem dX5_init_42 : decode cX5_init 42 = .ok (.putfield 34, 3) := by decide +kernel
theorem dX5_init_45 : decode cX5_init 45 = .ok (.iconst 0, 1) := by decide +kernel
theorem dX5_init_46 : decode cX5_init 46 = .ok (.istore_n 1, 1) := by decide +kernel
theorem dX5_init_47 : decode cX5_init 47 = .ok (.iload_n 1, 1) := by decide +kernel
theorem dX5_init_48 : decode cX5_init 48 = .ok (.bipush 8, 2) := by decide +kernel
theorem dX5_init_50 : decode cX5_init 50 = .ok (.if_icmp .ge 22, 3) := by decide +kernel
theorem dX5_init_53 : decode cX5_init 53 = .ok (.aload_n 0, 1) := by decide +kernel
theorem dX5_init_54 : decode cX5_init 54 = .ok (.getfield 11, 3) := by decide +kernel
theorem dX5_init_57 : decode cX5_init 57 = .ok (.iload_n 1, 1) := by decide +kernel
theorem dX5_init_58 : decode cX5_init 58 = .ok (.new 9, 3) := by decide +kernel
theorem dX5_init_61 : decode cX5_init 61 = .ok (.dup, 1) := by decide +kernel
theorem dX5_init_62 : decode cX5_init 62 = .ok (.invokespecial 37, 3) := by decide +kernel
theorem dX5_init_65 : decode cX5_init 65 = .ok (.aastore, 1) := by decide +kernel
theorem dX5_init_66 : decode cX5_init 66 = .ok (.iinc 1 1, 3) := by decide +kernel
theorem dX5_init_69 : decode cX5_init 69 = .ok (.goto (-22), 3) := by decide +kernel
theorem dX5_init_72 : decode cX5_init 72 = .ok (.iconst 0, 1) := by decide +kernel
theorem dX5_init_73 : decode cX5_init 73 = .ok (.istore_n 1, 1) := by decide +kernel
theorem dX5_init_74 : decode cX5_init 74 = .ok (.iload_n 1, 1) := by decide +kernel
theorem dX5_init_75 : decode cX5_init 75 = .ok (.iconst 4, 1) := by decide +kernel
theorem dX5_init_76 : decode cX5_init 76 = .ok (.if_icmp .ge 22, 3) := by decide +kernel
theorem dX5_init_79 : decode cX5_init 79 = .ok (.aload_n 0, 1) := by decide +kernel
theorem dX5_init_80 : decode cX5_init 80 = .ok (.getfield 19, 3) := by decide +kernel
theorem dX5_init_83 : decode cX5_init 83 = .ok (.iload_n 1, 1) := by decide +kernel
theorem dX5_init_84 : decode cX5_init 84 = .ok (.new 17, 3) := by decide +kernel
theorem dX5_init_87 : decode cX5_init 87 = .ok (.dup, 1) := by decide +kernel
theorem dX5_init_88 : decode cX5_init 88 = .ok (.invokespecial 38, 3) := by decide +kernel
theorem dX5_init_91 : decode cX5_init 91 = .ok (.aastore, 1) := by decide +kernel
theorem dX5_init_92 : decode cX5_init 92 = .ok (.iinc 1 1, 3) := by decide +kernel
theorem dX5_init_95 : decode cX5_init 95 = .ok (.goto (-21), 3) := by decide +kernel
theorem dX5_init_98 : decode cX5_init 98 = .ok (.return_, 1) := by decide +kernel
theorem dX5_copyFrom_0 : decode cX5_copyFrom 0 = .ok (.iconst 0, 1) := by decide +kernel
theorem dX5_copyFrom_1 : decode cX5_copyFrom 1 = .ok (.istore_n 2, 1) := by decide +kernel
theorem dX5_copyFrom_2 : decode cX5_copyFrom 2 = .ok (.iload_n 2, 1) := by decide +kernel
theorem dX5_copyFrom_3 : decode cX5_copyFrom 3 = .ok (.bipush 8, 2) := by decide +kernel
theorem dX5_copyFrom_5 : decode cX5_copyFrom 5 = .ok (.if_icmp .ge 24, 3) := by decide +kernel
theorem dX5_copyFrom_8 : decode cX5_copyFrom 8 = .ok (.aload_n 0, 1) := by decide +kernel
theorem dX5_copyFrom_9 : decode cX5_copyFrom 9 = .ok (.getfield 11, 3) := by decide +kernel
theorem dX5_copyFrom_12 : decode cX5_copyFrom 12 = .ok (.iload_n 2, 1) := by decide +kernel
theorem dX5_copyFrom_13 : decode cX5_copyFrom 13 = .ok (.aaload, 1) := by decide +kernel
theorem dX5_copyFrom_14 : decode cX5_copyFrom 14 = .ok (.aload_n 1, 1) := by decide +kernel
theorem dX5_copyFrom_15 : decode cX5_copyFrom 15 = .ok (.getfield 11, 3) := by decide +kernel
theorem dX5_copyFrom_18 : decode cX5_copyFrom 18 = .ok (.iload_n 2, 1) := by decide +kernel
theorem dX5_copyFrom_19 : decode cX5_copyFrom 19 = .ok (.aaload, 1) := by decide +kernel
theorem dX5_copyFrom_20 : decode cX5_copyFrom 20 = .ok (.invokevirtual 39, 3) := by decide +kernel
theorem dX5_copyFrom_23 : decode cX5_copyFrom 23 = .ok (.iinc 2 1, 3) := by decide +kernel
theorem dX5_copyFrom_26 : decode cX5_copyFrom 26 = .ok (.goto (-24), 3) := by decide +kernel
theorem dX5_copyFrom_29 : decode cX5_copyFrom 29 = .ok (.iconst 0, 1) := by decide +kernel
theorem dX5_copyFrom_30 : decode cX5_copyFrom 30 = .ok (.istore_n 2, 1) := by decide +kernel
theorem dX5_copyFrom_31 : decode cX5_copyFrom 31 = .ok (.iload_n 2, 1) := by decide +kernel
theorem dX5_copyFrom_32 : decode cX5_copyFrom 32 = .ok (.iconst 4, 1) := by decide +kernel
theorem dX5_copyFrom_33 : decode cX5_copyFrom 33 = .ok (.if_icmp .ge 24, 3) := by decide +kernel
theorem dX5_copyFrom_36 : decode cX5_copyFrom 36 = .ok (.aload_n 0, 1) := by decide +kernel
theorem dX5_copyFrom_37 : decode cX5_copyFrom 37 = .ok (.getfield 19, 3) := by decide +kernel
theorem dX5_copyFrom_40 : decode cX5_copyFrom 40 = .ok (.iload_n 2, 1) := by decide +kernel
theorem dX5_copyFrom_41 : decode cX5_copyFrom 41 = .ok (.aaload, 1) := by decide +kernel
theorem dX5_copyFrom_42 : decode cX5_copyFrom 42 = .ok (.aload_n 1, 1) := by decide +kernel
theorem dX5_copyFrom_43 : decode cX5_copyFrom 43 = .ok (.getfield 19, 3) := by decide +kernel
theorem dX5_copyFrom_46 : decode cX5_copyFrom 46 = .ok (.iload_n 2, 1) := by decide +kernel
theorem dX5_copyFrom_47 : decode cX5_copyFrom 47 = .ok (.aaload, 1) := by decide +kernel
theorem dX5_copyFrom_48 : decode cX5_copyFrom 48 = .ok (.invokevirtual 43, 3) := by decide +kernel
theorem dX5_copyFrom_51 : decode cX5_copyFrom 51 = .ok (.iinc 2 1, 3) := by decide +kernel
theorem dX5_copyFrom_54 : decode cX5_copyFrom 54 = .ok (.goto (-23), 3) := by decide +kernel
theorem dX5_copyFrom_57 : decode cX5_copyFrom 57 = .ok (.iconst 0, 1) := by decide +kernel
theorem dX5_copyFrom_58 : decode cX5_copyFrom 58 = .ok (.istore_n 2, 1) := by decide +kernel
theorem dX5_copyFrom_59 : decode cX5_copyFrom 59 = .ok (.iload_n 2, 1) := by decide +kernel
theorem dX5_copyFrom_60 : decode cX5_copyFrom 60 = .ok (.iconst 4, 1) := by decide +kernel
theorem dX5_copyFrom_61 : decode cX5_copyFrom 61 = .ok (.if_icmp .ge 21, 3) := by decide +kernel
theorem dX5_copyFrom_64 : decode cX5_copyFrom 64 = .ok (.aload_n 0, 1) := by decide +kernel
theorem dX5_copyFrom_65 : decode cX5_copyFrom 65 = .ok (.getfield 23, 3) := by decide +kernel
theorem dX5_copyFrom_68 : decode cX5_copyFrom 68 = .ok (.iload_n 2, 1) := by decide +kernel
theorem dX5_copyFrom_69 : decode cX5_copyFrom 69 = .ok (.aload_n 1, 1) := by decide +kernel
theorem dX5_copyFrom_70 : decode cX5_copyFrom 70 = .ok (.getfield 23, 3) := by decide +kernel
theorem dX5_copyFrom_73 : decode cX5_copyFrom 73 = .ok (.iload_n 2, 1) := by decide +kernel
theorem dX5_copyFrom_74 : decode cX5_copyFrom 74 = .ok (.iaload, 1) := by decide +kernel
theorem dX5_copyFrom_75 : decode cX5_copyFrom 75 = .ok (.iastore, 1) := by decide +kernel
theorem dX5_copyFrom_76 : decode cX5_copyFrom 76 = .ok (.iinc 2 1, 3) := by decide +kernel
theorem dX5_copyFrom_79 : decode cX5_copyFrom 79 = .ok (.goto (-20), 3) := by decide +kernel
theorem dX5_copyFrom_82 : decode cX5_copyFrom 82 = .ok (.aload_n 0, 1) := by decide +kernel
theorem dX5_copyFrom_83 : decode cX5_copyFrom 83 = .ok (.aload_n 1, 1) := by decide +kernel
theorem dX5_copyFrom_84 : decode cX5_copyFrom 84 = .ok (.getfield 46, 3) := by decide +kernel
theorem dX5_copyFrom_87 : decode cX5_copyFrom 87 = .ok (.putfield 46, 3) := by decide +kernel
theorem dX5_copyFrom_90 : decode cX5_copyFrom 90 = .ok (.aload_n 0, 1) := by decide +kernel
theorem dX5_copyFrom_91 : decode cX5_copyFrom 91 = .ok (.aload_n 1, 1) := by decide +kernel
theorem dX5_copyFrom_92 : decode cX5_copyFrom 92 = .ok (.getfield 49, 3) := by decide +kernel
theorem dX5_copyFrom_95 : decode cX5_copyFrom 95 = .ok (.putfield 49, 3) := by decide +kernel
theorem dX5_copyFrom_98 : decode cX5_copyFrom 98 = .ok (.aload_n 0, 1) := by decide +kernel
theorem dX5_copyFrom_99 : decode cX5_copyFrom 99 = .ok (.aload_n 1, 1) := by decide +kernel
theorem dX5_copyFrom_100 : decode cX5_copyFrom 100 = .ok (.getfield 52, 3) := by decide +kernel
theorem dX5_copyFrom_103 : decode cX5_copyFrom 103 = .ok (.putfield 52, 3) := by decide +kernel
theorem dX5_copyFrom_106 : decode cX5_copyFrom 106 = .ok (.aload_n 0, 1) := by decide +kernel
theorem dX5_copyFrom_107 : decode cX5_copyFrom 107 = .ok (.aload_n 1, 1) := by decide +kernel
theorem dX5_copyFrom_108 : decode cX5_copyFrom 108 = .ok (.getfield 55, 3) := by decide +kernel
theorem dX5_copyFrom_111 : decode cX5_copyFrom 111 = .ok (.putfield 55, 3) := by decide +kernel
theorem dX5_copyFrom_114 : decode cX5_copyFrom 114 = .ok (.aload_n 0, 1) := by decide +kernel
theorem dX5_copyFrom_115 : decode cX5_copyFrom 115 = .ok (.aload_n 1, 1) := by decide +kernel
theorem dX5_copyFrom_116 : decode cX5_copyFrom 116 = .ok (.getfield 58, 3) := by decide +kernel
theorem dX5_copyFrom_119 : decode cX5_copyFrom 119 = .ok (.putfield 58, 3) := by decide +kernel
theorem dX5_copyFrom_122 : decode cX5_copyFrom 122 = .ok (.aload_n 0, 1) := by decide +kernel
theorem dX5_copyFrom_123 : decode cX5_copyFrom 123 = .ok (.aload_n 1, 1) := by decide +kernel
theorem dX5_copyFrom_124 : decode cX5_copyFrom 124 = .ok (.getfield 27, 3) := by decide +kernel
theorem dX5_copyFrom_127 : decode cX5_copyFrom 127 = .ok (.putfield 27, 3) := by decide +kernel
theorem dX5_copyFrom_130 : decode cX5_copyFrom 130 = .ok (.aload_n 0, 1) := by decide +kernel
theorem dX5_copyFrom_131 : decode cX5_copyFrom 131 = .ok (.aload_n 1, 1) := by decide +kernel
theorem dX5_copyFrom_132 : decode cX5_copyFrom 132 = .ok (.getfield 31, 3) := by decide +kernel
theorem dX5_copyFrom_135 : decode cX5_copyFrom 135 = .ok (.putfield 31, 3) := by decide +kernel
theorem dX5_copyFrom_138 : decode cX5_copyFrom 138 = .ok (.aload_n 0, 1) := by decide +kernel
theorem dX5_copyFrom_139 : decode cX5_copyFrom 139 = .ok (.aload_n 1, 1) := by decide +kernel
theorem dX5_copyFrom_140 : decode cX5_copyFrom 140 = .ok (.getfield 34, 3) := by decide +kernel
theorem dX5_copyFrom_143 : decode cX5_copyFrom 143 = .ok (.putfield 34, 3) := by decide +kernel
theorem dX5_copyFrom_146 : decode cX5_copyFrom 146 = .ok (.aload_n 0, 1) := by decide +kernel
theorem dX5_copyFrom_147 : decode cX5_copyFrom 147 = .ok (.aload_n 1, 1) := by decide +kernel
theorem dX5_copyFrom_148 : decode cX5_copyFrom 148 = .ok (.getfield 61, 3) := by decide +kernel
theorem dX5_copyFrom_151 : decode cX5_copyFrom 151 = .ok (.putfield 61, 3) := by decide +kernel
theorem dX5_copyFrom_154 : decode cX5_copyFrom 154 = .ok (.aload_n 0, 1) := by decide +kernel
theorem dX5_copyFrom_155 : decode cX5_copyFrom 155 = .ok (.aload_n 1, 1) := by decide +kernel
theorem dX5_copyFrom_156 : decode cX5_copyFrom 156 = .ok (.getfield 64, 3) := by decide +kernel
theorem dX5_copyFrom_159 : decode cX5_copyFrom 159 = .ok (.putfield 64, 3) := by decide +kernel
theorem dX5_copyFrom_162 : decode cX5_copyFrom 162 = .ok (.return_, 1) := by decide +kernel
theorem dX5_houseAt_0 : decode cX5_houseAt 0 = .ok (.iload_n 1, 1) := by decide +kernel
theorem dX5_houseAt_1 : decode cX5_houseAt 1 = .ok (.iconst 0, 1) := by decide +kernel
theorem dX5_houseAt_2 : decode cX5_houseAt 2 = .ok (.aload_n 0, 1) := by decide +kernel
theorem dX5_houseAt_3 : decode cX5_houseAt 3 = .ok (.getfield 46, 3) := by decide +kernel
theorem dX5_houseAt_6 : decode cX5_houseAt 6 = .ok (.iconst 1, 1) := by decide +kernel
theorem dX5_houseAt_7 : decode cX5_houseAt 7 = .ok (.isub, 1) := by decide +kernel
theorem dX5_houseAt_8 : decode cX5_houseAt 8 = .ok (.invokestatic 67, 3) := by decide +kernel
theorem dX5_houseAt_11 : decode cX5_houseAt 11 = .ok (.ifCond .eq 7, 3) := by decide +kernel
theorem dX5_houseAt_14 : decode cX5_houseAt 14 = .ok (.aconst_null, 1) := by decide +kernel
theorem dX5_houseAt_15 : decode cX5_houseAt 15 = .ok (.goto 9, 3) := by decide +kernel
theorem dX5_houseAt_18 : decode cX5_houseAt 18 = .ok (.aload_n 0, 1) := by decide +kernel
theorem dX5_houseAt_19 : decode cX5_houseAt 19 = .ok (.getfield 11, 3) := by decide +kernel
theorem dX5_houseAt_22 : decode cX5_houseAt 22 = .ok (.iload_n 1, 1) := by decide +kernel
theorem dX5_houseAt_23 : decode cX5_houseAt 23 = .ok (.aaload, 1) := by decide +kernel
theorem dX5_houseAt_24 : decode cX5_houseAt 24 = .ok (.areturn, 1) := by decide +kernel
theorem dX5_houseHere_0 : decode cX5_houseHere 0 = .ok (.aload_n 0, 1) := by decide +kernel
theorem dX5_houseHere_1 : decode cX5_houseHere 1 = .ok (.aload_n 0, 1) := by decide +kernel
theorem dX5_houseHere_2 : decode cX5_houseHere 2 = .ok (.getfield 55, 3) := by decide +kernel
theorem dX5_houseHere_5 : decode cX5_houseHere 5 = .ok (.iconst 1, 1) := by decide +kernel
theorem dX5_houseHere_6 : decode cX5_houseHere 6 = .ok (.isub, 1) := by decide +kernel
theorem dX5_houseHere_7 : decode cX5_houseHere 7 = .ok (.invokevirtual 71, 3) := by decide +kernel
theorem dX5_houseHere_10 : decode cX5_houseHere 10 = .ok (.areturn, 1) := by decide +kernel
theorem dX5_carrierAt_0 : decode cX5_carrierAt 0 = .ok (.iload_n 1, 1) := by decide +kernel
theorem dX5_carrierAt_1 : decode cX5_carrierAt 1 = .ok (.iconst 0, 1) := by decide +kernel
theorem dX5_carrierAt_2 : decode cX5_carrierAt 2 = .ok (.aload_n 0, 1) := by decide +kernel
theorem dX5_carrierAt_3 : decode cX5_carrierAt 3 = .ok (.getfield 49, 3) := by decide +kernel
theorem dX5_carrierAt_6 : decode cX5_carrierAt 6 = .ok (.iconst 1, 1) := by decide +kernel
theorem dX5_carrierAt_7 : decode cX5_carrierAt 7 = .ok (.isub, 1) := by decide +kernel
theorem dX5_carrierAt_8 : decode cX5_carrierAt 8 = .ok (.invokestatic 67, 3) := by decide +kernel
theorem dX5_carrierAt_11 : decode cX5_carrierAt 11 = .ok (.ifCond .eq 7, 3) := by decide +kernel
theorem dX5_carrierAt_14 : decode cX5_carrierAt 14 = .ok (.aconst_null, 1) := by decide +kernel
theorem dX5_carrierAt_15 : decode cX5_carrierAt 15 = .ok (.goto 9, 3) := by decide +kernel
theorem dX5_carrierAt_18 : decode cX5_carrierAt 18 = .ok (.aload_n 0, 1) := by decide +kernel
theorem dX5_carrierAt_19 : decode cX5_carrierAt 19 = .ok (.getfield 19, 3) := by decide +kernel
theorem dX5_carrierAt_22 : decode cX5_carrierAt 22 = .ok (.iload_n 1, 1) := by decide +kernel
theorem dX5_carrierAt_23 : decode cX5_carrierAt 23 = .ok (.aaload, 1) := by decide +kernel
theorem dX5_carrierAt_24 : decode cX5_carrierAt 24 = .ok (.areturn, 1) := by decide +kernel
theorem dX5_shoesLeft_0 : decode cX5_shoesLeft 0 = .ok (.iconst 0, 1) := by decide +kernel
theorem dX5_shoesLeft_1 : decode cX5_shoesLeft 1 = .ok (.istore_n 1, 1) := by decide +kernel
theorem dX5_shoesLeft_2 : decode cX5_shoesLeft 2 = .ok (.iconst 0, 1) := by decide +kernel
theorem dX5_shoesLeft_3 : decode cX5_shoesLeft 3 = .ok (.istore_n 2, 1) := by decide +kernel
theorem dX5_shoesLeft_4 : decode cX5_shoesLeft 4 = .ok (.iload_n 2, 1) := by decide +kernel
theorem dX5_shoesLeft_5 : decode cX5_shoesLeft 5 = .ok (.iconst 4, 1) := by decide +kernel
theorem dX5_shoesLeft_6 : decode cX5_shoesLeft 6 = .ok (.if_icmp .ge 23, 3) := by decide +kernel
theorem dX5_shoesLeft_9 : decode cX5_shoesLeft 9 = .ok (.aload_n 0, 1) := by decide +kernel
theorem dX5_shoesLeft_10 : decode cX5_shoesLeft 10 = .ok (.getfield 23, 3) := by decide +kernel
theorem dX5_shoesLeft_13 : decode cX5_shoesLeft 13 = .ok (.iload_n 2, 1) := by decide +kernel
theorem dX5_shoesLeft_14 : decode cX5_shoesLeft 14 = .ok (.iaload, 1) := by decide +kernel
theorem dX5_shoesLeft_15 : decode cX5_shoesLeft 15 = .ok (.bipush 20, 2) := by decide +kernel
theorem dX5_shoesLeft_17 : decode cX5_shoesLeft 17 = .ok (.if_icmp .ge 6, 3) := by decide +kernel
theorem dX5_shoesLeft_20 : decode cX5_shoesLeft 20 = .ok (.iinc 1 1, 3) := by decide +kernel
theorem dX5_shoesLeft_23 : decode cX5_shoesLeft 23 = .ok (.iinc 2 1, 3) := by decide +kernel
theorem dX5_shoesLeft_26 : decode cX5_shoesLeft 26 = .ok (.goto (-22), 3) := by decide +kernel
theorem dX5_shoesLeft_29 : decode cX5_shoesLeft 29 = .ok (.iload_n 1, 1) := by decide +kernel
theorem dX5_shoesLeft_30 : decode cX5_shoesLeft 30 = .ok (.ireturn, 1) := by decide +kernel
theorem dX5_goUphill_0 : decode cX5_goUphill 0 = .ok (.iconst 0, 1) := by decide +kernel
theorem dX5_goUphill_1 : decode cX5_goUphill 1 = .ok (.istore_n 2, 1) := by decide +kernel
theorem dX5_goUphill_2 : decode cX5_goUphill 2 = .ok (.iload_n 2, 1) := by decide +kernel
theorem dX5_goUphill_3 : decode cX5_goUphill 3 = .ok (.iconst 4, 1) := by decide +kernel
theorem dX5_goUphill_4 : decode cX5_goUphill 4 = .ok (.if_icmp .ge 28, 3) := by decide +kernel
theorem dX5_goUphill_7 : decode cX5_goUphill 7 = .ok (.aload_n 0, 1) := by decide +kernel
theorem dX5_goUphill_8 : decode cX5_goUphill 8 = .ok (.getfield 23, 3) := by decide +kernel
theorem dX5_goUphill_11 : decode cX5_goUphill 11 = .ok (.iload_n 2, 1) := by decide +kernel
theorem dX5_goUphill_12 : decode cX5_goUphill 12 = .ok (.bipush 20, 2) := by decide +kernel
theorem dX5_goUphill_14 : decode cX5_goUphill 14 = .ok (.aload_n 0, 1) := by decide +kernel
theorem dX5_goUphill_15 : decode cX5_goUphill 15 = .ok (.getfield 23, 3) := by decide +kernel
theorem dX5_goUphill_18 : decode cX5_goUphill 18 = .ok (.iload_n 2, 1) := by decide +kernel
theorem dX5_goUphill_19 : decode cX5_goUphill 19 = .ok (.iaload, 1) := by decide +kernel
theorem dX5_goUphill_20 : decode cX5_goUphill 20 = .ok (.iload_n 1, 1) := by decide +kernel
theorem dX5_goUphill_21 : decode cX5_goUphill 21 = .ok (.iadd, 1) := by decide +kernel
theorem dX5_goUphill_22 : decode cX5_goUphill 22 = .ok (.invokestatic 75, 3) := by decide +kernel
theorem dX5_goUphill_25 : decode cX5_goUphill 25 = .ok (.iastore, 1) := by decide +kernel
theorem dX5_goUphill_26 : decode cX5_goUphill 26 = .ok (.iinc 2 1, 3) := by decide +kernel
theorem dX5_goUphill_29 : decode cX5_goUphill 29 = .ok (.goto (-27), 3) := by decide +kernel
theorem dX5_goUphill_32 : decode cX5_goUphill 32 = .ok (.aload_n 0, 1) := by decide +kernel
theorem dX5_goUphill_33 : decode cX5_goUphill 33 = .ok (.dup, 1) := by decide +kernel
theorem dX5_goUphill_34 : decode cX5_goUphill 34 = .ok (.getfield 64, 3) := by decide +kernel
theorem dX5_goUphill_37 : decode cX5_goUphill 37 = .ok (.iload_n 1, 1) := by decide +kernel
theorem dX5_goUphill_38 : decode cX5_goUphill 38 = .ok (.iadd, 1) := by decide +kernel
theorem dX5_goUphill_39 : decode cX5_goUphill 39 = .ok (.putfield 64, 3) := by decide +kernel
theorem dX5_goUphill_42 : decode cX5_goUphill 42 = .ok (.return_, 1) := by decide +kernel
theorem dX5_beginDay_0 : decode cX5_beginDay 0 = .ok (.aload_n 0, 1) := by decide +kernel
theorem dX5_beginDay_1 : decode cX5_beginDay 1 = .ok (.dup, 1) := by decide +kernel
theorem dX5_beginDay_2 : decode cX5_beginDay 2 = .ok (.getfield 52, 3) := by decide +kernel
theorem dX5_beginDay_5 : decode cX5_beginDay 5 = .ok (.iconst 1, 1) := by decide +kernel
theorem dX5_beginDay_6 : decode cX5_beginDay 6 = .ok (.iadd, 1) := by decide +kernel
theorem dX5_beginDay_7 : decode cX5_beginDay 7 = .ok (.putfield 52, 3) := by decide +kernel
theorem dX5_beginDay_10 : decode cX5_beginDay 10 = .ok (.aload_n 0, 1) := by decide +kernel
theorem dX5_beginDay_11 : decode cX5_beginDay 11 = .ok (.getfield 52, 3) := by decide +kernel
theorem dX5_beginDay_14 : decode cX5_beginDay 14 = .ok (.bipush 7, 2) := by decide +kernel
theorem dX5_beginDay_16 : decode cX5_beginDay 16 = .ok (.irem, 1) := by decide +kernel
theorem dX5_beginDay_17 : decode cX5_beginDay 17 = .ok (.ifCond .ne 7, 3) := by decide +kernel
theorem dX5_beginDay_20 : decode cX5_beginDay 20 = .ok (.iconst 1, 1) := by decide +kernel
theorem dX5_beginDay_21 : decode cX5_beginDay 21 = .ok (.goto 4, 3) := by decide +kernel
theorem dX5_beginDay_24 : decode cX5_beginDay 24 = .ok (.iconst 0, 1) := by decide +kernel
theorem dX5_beginDay_25 : decode cX5_beginDay 25 = .ok (.istore_n 1, 1) := by decide +kernel
theorem dX5_beginDay_26 : decode cX5_beginDay 26 = .ok (.iconst 0, 1) := by decide +kernel
theorem dX5_beginDay_27 : decode cX5_beginDay 27 = .ok (.istore_n 2, 1) := by decide +kernel
theorem dX5_beginDay_28 : decode cX5_beginDay 28 = .ok (.iload_n 2, 1) := by decide +kernel
theorem dX5_beginDay_29 : decode cX5_beginDay 29 = .ok (.aload_n 0, 1) := by decide +kernel
theorem dX5_beginDay_30 : decode cX5_beginDay 30 = .ok (.getfield 46, 3) := by decide +kernel
theorem dX5_beginDay_33 : decode cX5_beginDay 33 = .ok (.if_icmp .ge 31, 3) := by decide +kernel
theorem dX5_beginDay_36 : decode cX5_beginDay 36 = .ok (.aload_n 0, 1) := by decide +kernel
theorem dX5_beginDay_37 : decode cX5_beginDay 37 = .ok (.getfield 11, 3) := by decide +kernel
theorem dX5_beginDay_40 : decode cX5_beginDay 40 = .ok (.iload_n 2, 1) := by decide +kernel
theorem dX5_beginDay_41 : decode cX5_beginDay 41 = .ok (.aaload, 1) := by decide +kernel
theorem dX5_beginDay_42 : decode cX5_beginDay 42 = .ok (.invokevirtual 81, 3) := by decide +kernel
theorem dX5_beginDay_45 : decode cX5_beginDay 45 = .ok (.iload_n 1, 1) := by decide +kernel
theorem dX5_beginDay_46 : decode cX5_beginDay 46 = .ok (.ifCond .eq 12, 3) := by decide +kernel
theorem dX5_beginDay_49 : decode cX5_beginDay 49 = .ok (.aload_n 0, 1) := by decide +kernel
theorem dX5_beginDay_50 : decode cX5_beginDay 50 = .ok (.getfield 11, 3) := by decide +kernel
theorem dX5_beginDay_53 : decode cX5_beginDay 53 = .ok (.iload_n 2, 1) := by decide +kernel
theorem dX5_beginDay_54 : decode cX5_beginDay 54 = .ok (.aaload, 1) := by decide +kernel
theorem dX5_beginDay_55 : decode cX5_beginDay 55 = .ok (.invokevirtual 84, 3) := by decide +kernel
theorem dX5_beginDay_58 : decode cX5_beginDay 58 = .ok (.iinc 2 1, 3) := by decide +kernel
theorem dX5_beginDay_61 : decode cX5_beginDay 61 = .ok (.goto (-33), 3) := by decide +kernel
theorem dX5_beginDay_64 : decode cX5_beginDay 64 = .ok (.iconst 0, 1) := by decide +kernel
theorem dX5_beginDay_65 : decode cX5_beginDay 65 = .ok (.istore_n 2, 1) := by decide +kernel
theorem dX5_beginDay_66 : decode cX5_beginDay 66 = .ok (.iload_n 2, 1) := by decide +kernel
theorem dX5_beginDay_67 : decode cX5_beginDay 67 = .ok (.aload_n 0, 1) := by decide +kernel
theorem dX5_beginDay_68 : decode cX5_beginDay 68 = .ok (.getfield 49, 3) := by decide +kernel
theorem dX5_beginDay_71 : decode cX5_beginDay 71 = .ok (.if_icmp .ge 18, 3) := by decide +kernel
theorem dX5_beginDay_74 : decode cX5_beginDay 74 = .ok (.aload_n 0, 1) := by decide +kernel
theorem dX5_beginDay_75 : decode cX5_beginDay 75 = .ok (.getfield 19, 3) := by decide +kernel
theorem dX5_beginDay_78 : decode cX5_beginDay 78 = .ok (.iload_n 2, 1) := by decide +kernel
theorem dX5_beginDay_79 : decode cX5_beginDay 79 = .ok (.aaload, 1) := by decide +kernel
theorem dX5_beginDay_80 : decode cX5_beginDay 80 = .ok (.invokevirtual 87, 3) := by decide +kernel
theorem dX5_beginDay_83 : decode cX5_beginDay 83 = .ok (.iinc 2 1, 3) := by decide +kernel
theorem dX5_beginDay_86 : decode cX5_beginDay 86 = .ok (.goto (-20), 3) := by decide +kernel
theorem dX5_beginDay_89 : decode cX5_beginDay 89 = .ok (.return_, 1) := by decide +kernel
theorem dX5_sumOf_0 : decode cX5_sumOf 0 = .ok (.iconst 0, 1) := by decide +kernel
theorem dX5_sumOf_1 : decode cX5_sumOf 1 = .ok (.istore_n 2, 1) := by decide +kernel
theorem dX5_sumOf_2 : decode cX5_sumOf 2 = .ok (.iconst 0, 1) := by decide +kernel
theorem dX5_sumOf_3 : decode cX5_sumOf 3 = .ok (.istore_n 3, 1) := by decide +kernel
theorem dX5_sumOf_4 : decode cX5_sumOf 4 = .ok (.iload_n 3, 1) := by decide +kernel
theorem dX5_sumOf_5 : decode cX5_sumOf 5 = .ok (.aload_n 0, 1) := by decide +kernel
theorem dX5_sumOf_6 : decode cX5_sumOf 6 = .ok (.getfield 46, 3) := by decide +kernel
theorem dX5_sumOf_9 : decode cX5_sumOf 9 = .ok (.if_icmp .ge 22, 3) := by decide +kernel
theorem dX5_sumOf_12 : decode cX5_sumOf 12 = .ok (.iload_n 2, 1) := by decide +kernel
theorem dX5_sumOf_13 : decode cX5_sumOf 13 = .ok (.aload_n 0, 1) := by decide +kernel
theorem dX5_sumOf_14 : decode cX5_sumOf 14 = .ok (.getfield 11, 3) := by decide +kernel
theorem dX5_sumOf_17 : decode cX5_sumOf 17 = .ok (.iload_n 3, 1) := by decide +kernel
theorem dX5_sumOf_18 : decode cX5_sumOf 18 = .ok (.aaload, 1) := by decide +kernel
theorem dX5_sumOf_19 : decode cX5_sumOf 19 = .ok (.iload_n 1, 1) := by decide +kernel
theorem dX5_sumOf_20 : decode cX5_sumOf 20 = .ok (.invokevirtual 88, 3) := by decide +kernel
theorem dX5_sumOf_23 : decode cX5_sumOf 23 = .ok (.iadd, 1) := by decide +kernel
theorem dX5_sumOf_24 : decode cX5_sumOf 24 = .ok (.istore_n 2, 1) := by decide +kernel
theorem dX5_sumOf_25 : decode cX5_sumOf 25 = .ok (.iinc 3 1, 3) := by decide +kernel
theorem dX5_sumOf_28 : decode cX5_sumOf 28 = .ok (.goto (-24), 3) := by decide +kernel
theorem dX5_sumOf_31 : decode cX5_sumOf 31 = .ok (.iload_n 2, 1) := by decide +kernel
theorem dX5_sumOf_32 : decode cX5_sumOf 32 = .ok (.ireturn, 1) := by decide +kernel
theorem dX5_sacksOfCarriers_0 : decode cX5_sacksOfCarriers 0 = .ok (.iconst 0, 1) := by decide +kernel
theorem dX5_sacksOfCarriers_1 : decode cX5_sacksOfCarriers 1 = .ok (.istore_n 1, 1) := by decide +kernel
theorem dX5_sacksOfCarriers_2 : decode cX5_sacksOfCarriers 2 = .ok (.iconst 0, 1) := by decide +kernel
theorem dX5_sacksOfCarriers_3 : decode cX5_sacksOfCarriers 3 = .ok (.istore_n 2, 1) := by decide +kernel
theorem dX5_sacksOfCarriers_4 : decode cX5_sacksOfCarriers 4 = .ok (.iload_n 2, 1) := by decide +kernel
theorem dX5_sacksOfCarriers_5 : decode cX5_sacksOfCarriers 5 = .ok (.aload_n 0, 1) := by decide +kernel
theorem dX5_sacksOfCarriers_6 : decode cX5_sacksOfCarriers 6 = .ok (.getfield 49, 3) := by decide +kernel
theorem dX5_sacksOfCarriers_9 : decode cX5_sacksOfCarriers 9 = .ok (.if_icmp .ge 21, 3) := by decide +kernel
theorem dX5_sacksOfCarriers_12 : decode cX5_sacksOfCarriers 12 = .ok (.iload_n 1, 1) := by decide +kernel
theorem dX5_sacksOfCarriers_13 : decode cX5_sacksOfCarriers 13 = .ok (.aload_n 0, 1) := by decide +kernel
theorem dX5_sacksOfCarriers_14 : decode cX5_sacksOfCarriers 14 = .ok (.getfield 19, 3) := by decide +kernel
theorem dX5_sacksOfCarriers_17 : decode cX5_sacksOfCarriers 17 = .ok (.iload_n 2, 1) := by decide +kernel
theorem dX5_sacksOfCarriers_18 : decode cX5_sacksOfCarriers 18 = .ok (.aaload, 1) := by decide +kernel
theorem dX5_sacksOfCarriers_19 : decode cX5_sacksOfCarriers 19 = .ok (.getfield 92, 3) := by decide +kernel
theorem dX5_sacksOfCarriers_22 : decode cX5_sacksOfCarriers 22 = .ok (.iadd, 1) := by decide +kernel
theorem dX5_sacksOfCarriers_23 : decode cX5_sacksOfCarriers 23 = .ok (.istore_n 1, 1) := by decide +kernel
theorem dX5_sacksOfCarriers_24 : decode cX5_sacksOfCarriers 24 = .ok (.iinc 2 1, 3) := by decide +kernel
theorem dX5_sacksOfCarriers_27 : decode cX5_sacksOfCarriers 27 = .ok (.goto (-23), 3) := by decide +kernel
theorem dX5_sacksOfCarriers_30 : decode cX5_sacksOfCarriers 30 = .ok (.iload_n 1, 1) := by decide +kernel
theorem dX5_sacksOfCarriers_31 : decode cX5_sacksOfCarriers 31 = .ok (.ireturn, 1) := by decide +kernel
theorem dX5_coinsForSacks_0 : decode cX5_coinsForSacks 0 = .ok (.aload_n 0, 1) := by decide +kernel
theorem dX5_coinsForSacks_1 : decode cX5_coinsForSacks 1 = .ok (.getfield 61, 3) := by decide +kernel
theorem dX5_coinsForSacks_4 : decode cX5_coinsForSacks 4 = .ok (.aload_n 0, 1) := by decide +kernel
theorem dX5_coinsForSacks_5 : decode cX5_coinsForSacks 5 = .ok (.iconst 4, 1) := by decide +kernel
theorem dX5_coinsForSacks_6 : decode cX5_coinsForSacks 6 = .ok (.invokevirtual 95, 3) := by decide +kernel
theorem dX5_coinsForSacks_9 : decode cX5_coinsForSacks 9 = .ok (.iadd, 1) := by decide +kernel
theorem dX5_coinsForSacks_10 : decode cX5_coinsForSacks 10 = .ok (.ireturn, 1) := by decide +kernel
theorem dX5_strongestFor_0 : decode cX5_strongestFor 0 = .ok (.iconst (-1), 1) := by decide +kernel
theorem dX5_strongestFor_1 : decode cX5_strongestFor 1 = .ok (.istore_n 2, 1) := by decide +kernel
theorem dX5_strongestFor_2 : decode cX5_strongestFor 2 = .ok (.iconst 0, 1) := by decide +kernel
theorem dX5_strongestFor_3 : decode cX5_strongestFor 3 = .ok (.istore_n 3, 1) := by decide +kernel
theorem dX5_strongestFor_4 : decode cX5_strongestFor 4 = .ok (.iconst 0, 1) := by decide +kernel
theorem dX5_strongestFor_5 : decode cX5_strongestFor 5 = .ok (.istore 4, 2) := by decide +kernel
theorem dX5_strongestFor_7 : decode cX5_strongestFor 7 = .ok (.iconst 0, 1) := by decide +kernel
theorem dX5_strongestFor_8 : decode cX5_strongestFor 8 = .ok (.istore 5, 2) := by decide +kernel
theorem dX5_strongestFor_10 : decode cX5_strongestFor 10 = .ok (.iload 5, 2) := by decide +kernel
theorem dX5_strongestFor_12 : decode cX5_strongestFor 12 = .ok (.aload_n 0, 1) := by decide +kernel
theorem dX5_strongestFor_13 : decode cX5_strongestFor 13 = .ok (.getfield 49, 3) := by decide +kernel
theorem dX5_strongestFor_16 : decode cX5_strongestFor 16 = .ok (.if_icmp .ge 84, 3) := by decide +kernel
theorem dX5_strongestFor_19 : decode cX5_strongestFor 19 = .ok (.aload_n 0, 1) := by decide +kernel
theorem dX5_strongestFor_20 : decode cX5_strongestFor 20 = .ok (.getfield 19, 3) := by decide +kernel
theorem dX5_strongestFor_23 : decode cX5_strongestFor 23 = .ok (.iload 5, 2) := by decide +kernel
theorem dX5_strongestFor_25 : decode cX5_strongestFor 25 = .ok (.aaload, 1) := by decide +kernel
theorem dX5_strongestFor_26 : decode cX5_strongestFor 26 = .ok (.aload_n 1, 1) := by decide +kernel
theorem dX5_strongestFor_27 : decode cX5_strongestFor 27 = .ok (.invokevirtual 98, 3) := by decide +kernel
theorem dX5_strongestFor_30 : decode cX5_strongestFor 30 = .ok (.istore 6, 2) := by decide +kernel
theorem dX5_strongestFor_32 : decode cX5_strongestFor 32 = .ok (.iload_n 2, 1) := by decide +kernel
theorem dX5_strongestFor_33 : decode cX5_strongestFor 33 = .ok (.iconst (-1), 1) := by decide +kernel
theorem dX5_strongestFor_34 : decode cX5_strongestFor 34 = .ok (.if_icmp .eq 13, 3) := by decide +kernel
theorem dX5_strongestFor_37 : decode cX5_strongestFor 37 = .ok (.iload 6, 2) := by decide +kernel
theorem dX5_strongestFor_39 : decode cX5_strongestFor 39 = .ok (.iload_n 3, 1) := by decide +kernel
theorem dX5_strongestFor_40 : decode cX5_strongestFor 40 = .ok (.if_icmp .ne 7, 3) := by decide +kernel
theorem dX5_strongestFor_43 : decode cX5_strongestFor 43 = .ok (.iconst 1, 1) := by decide +kernel
theorem dX5_strongestFor_44 : decode cX5_strongestFor 44 = .ok (.goto 4, 3) := by decide +kernel
theorem dX5_strongestFor_47 : decode cX5_strongestFor 47 = .ok (.iconst 0, 1) := by decide +kernel
theorem dX5_strongestFor_48 : decode cX5_strongestFor 48 = .ok (.istore 7, 2) := by decide +kernel
theorem dX5_strongestFor_50 : decode cX5_strongestFor 50 = .ok (.iload 6, 2) := by decide +kernel
theorem dX5_strongestFor_52 : decode cX5_strongestFor 52 = .ok (.iload_n 3, 1) := by decide +kernel
theorem dX5_strongestFor_53 : decode cX5_strongestFor 53 = .ok (.if_icmp .gt 23, 3) := by decide +kernel
theorem dX5_strongestFor_56 : decode cX5_strongestFor 56 = .ok (.iload 7, 2) := by decide +kernel
theorem dX5_strongestFor_58 : decode cX5_strongestFor 58 = .ok (.ifCond .eq 36, 3) := by decide +kernel
theorem dX5_strongestFor_61 : decode cX5_strongestFor 61 = .ok (.aload_n 0, 1) := by decide +kernel
theorem dX5_strongestFor_62 : decode cX5_strongestFor 62 = .ok (.getfield 19, 3) := by decide +kernel
theorem dX5_strongestFor_65 : decode cX5_strongestFor 65 = .ok (.iload 5, 2) := by decide +kernel
theorem dX5_strongestFor_67 : decode cX5_strongestFor 67 = .ok (.aaload, 1) := by decide +kernel
theorem dX5_strongestFor_68 : decode cX5_strongestFor 68 = .ok (.getfield 102, 3) := by decide +kernel
theorem dX5_strongestFor_71 : decode cX5_strongestFor 71 = .ok (.iload 4, 2) := by decide +kernel
theorem dX5_strongestFor_73 : decode cX5_strongestFor 73 = .ok (.if_icmp .ge 21, 3) := by decide +kernel
theorem dX5_strongestFor_76 : decode cX5_strongestFor 76 = .ok (.iload 5, 2) := by decide +kernel
theorem dX5_strongestFor_78 : decode cX5_strongestFor 78 = .ok (.istore_n 2, 1) := by decide +kernel
theorem dX5_strongestFor_79 : decode cX5_strongestFor 79 = .ok (.iload 6, 2) := by decide +kernel
theorem dX5_strongestFor_81 : decode cX5_strongestFor 81 = .ok (.istore_n 3, 1) := by decide +kernel
theorem dX5_strongestFor_82 : decode cX5_strongestFor 82 = .ok (.aload_n 0, 1) := by decide +kernel
theorem dX5_strongestFor_83 : decode cX5_strongestFor 83 = .ok (.getfield 19, 3) := by decide +kernel
theorem dX5_strongestFor_86 : decode cX5_strongestFor 86 = .ok (.iload 5, 2) := by decide +kernel
theorem dX5_strongestFor_88 : decode cX5_strongestFor 88 = .ok (.aaload, 1) := by decide +kernel
theorem dX5_strongestFor_89 : decode cX5_strongestFor 89 = .ok (.getfield 102, 3) := by decide +kernel
theorem dX5_strongestFor_92 : decode cX5_strongestFor 92 = .ok (.istore 4, 2) := by decide +kernel
theorem dX5_strongestFor_94 : decode cX5_strongestFor 94 = .ok (.iinc 5 1, 3) := by decide +kernel
theorem dX5_strongestFor_97 : decode cX5_strongestFor 97 = .ok (.goto (-87), 3) := by decide +kernel
theorem dX5_strongestFor_100 : decode cX5_strongestFor 100 = .ok (.iload_n 2, 1) := by decide +kernel
theorem dX5_strongestFor_101 : decode cX5_strongestFor 101 = .ok (.ireturn, 1) := by decide +kernel
theorem dX5_houseOfRank_0 : decode cX5_houseOfRank 0 = .ok (.iconst 0, 1) := by decide +kernel
theorem dX5_houseOfRank_1 : decode cX5_houseOfRank 1 = .ok (.istore_n 2, 1) := by decide +kernel
theorem dX5_houseOfRank_2 : decode cX5_houseOfRank 2 = .ok (.iload_n 2, 1) := by decide +kernel
theorem dX5_houseOfRank_3 : decode cX5_houseOfRank 3 = .ok (.aload_n 0, 1) := by decide +kernel
theorem dX5_houseOfRank_4 : decode cX5_houseOfRank 4 = .ok (.getfield 46, 3) := by decide +kernel
theorem dX5_houseOfRank_7 : decode cX5_houseOfRank 7 = .ok (.if_icmp .ge 49, 3) := by decide +kernel
theorem dX5_houseOfRank_10 : decode cX5_houseOfRank 10 = .ok (.iconst 0, 1) := by decide +kernel
theorem dX5_houseOfRank_11 : decode cX5_houseOfRank 11 = .ok (.istore_n 3, 1) := by decide +kernel
theorem dX5_houseOfRank_12 : decode cX5_houseOfRank 12 = .ok (.iconst 0, 1) := by decide +kernel
theorem dX5_houseOfRank_13 : decode cX5_houseOfRank 13 = .ok (.istore 4, 2) := by decide +kernel
theorem dX5_houseOfRank_15 : decode cX5_houseOfRank 15 = .ok (.iload 4, 2) := by decide +kernel
theorem dX5_houseOfRank_17 : decode cX5_houseOfRank 17 = .ok (.aload_n 0, 1) := by decide +kernel
theorem dX5_houseOfRank_18 : decode cX5_houseOfRank 18 = .ok (.getfield 46, 3) := by decide +kernel
theorem dX5_houseOfRank_21 : decode cX5_houseOfRank 21 = .ok (.if_icmp .ge 22, 3) := by decide +kernel
theorem dX5_houseOfRank_24 : decode cX5_houseOfRank 24 = .ok (.aload_n 0, 1) := by decide +kernel
theorem dX5_houseOfRank_25 : decode cX5_houseOfRank 25 = .ok (.iload 4, 2) := by decide +kernel
theorem dX5_houseOfRank_27 : decode cX5_houseOfRank 27 = .ok (.iload_n 2, 1) := by decide +kernel
theorem dX5_houseOfRank_28 : decode cX5_houseOfRank 28 = .ok (.invokevirtual 105, 3) := by decide +kernel
theorem dX5_houseOfRank_31 : decode cX5_houseOfRank 31 = .ok (.ifCond .eq 6, 3) := by decide +kernel
theorem dX5_houseOfRank_34 : decode cX5_houseOfRank 34 = .ok (.iinc 3 1, 3) := by decide +kernel
theorem dX5_houseOfRank_37 : decode cX5_houseOfRank 37 = .ok (.iinc 4 1, 3) := by decide +kernel
theorem dX5_houseOfRank_40 : decode cX5_houseOfRank 40 = .ok (.goto (-25), 3) := by decide +kernel
theorem dX5_houseOfRank_43 : decode cX5_houseOfRank 43 = .ok (.iload_n 3, 1) := by decide +kernel
theorem dX5_houseOfRank_44 : decode cX5_houseOfRank 44 = .ok (.iload_n 1, 1) := by decide +kernel
theorem dX5_houseOfRank_45 : decode cX5_houseOfRank 45 = .ok (.if_icmp .ne 5, 3) := by decide +kernel
theorem dX5_houseOfRank_48 : decode cX5_houseOfRank 48 = .ok (.iload_n 2, 1) := by decide +kernel
theorem dX5_houseOfRank_49 : decode cX5_houseOfRank 49 = .ok (.ireturn, 1) := by decide +kernel
theorem dX5_houseOfRank_50 : decode cX5_houseOfRank 50 = .ok (.iinc 2 1, 3) := by decide +kernel
theorem dX5_houseOfRank_53 : decode cX5_houseOfRank 53 = .ok (.goto (-51), 3) := by decide +kernel
theorem dX5_houseOfRank_56 : decode cX5_houseOfRank 56 = .ok (.iconst (-1), 1) := by decide +kernel
theorem dX5_houseOfRank_57 : decode cX5_houseOfRank 57 = .ok (.ireturn, 1) := by decide +kernel
theorem dX5_isAhead_0 : decode cX5_isAhead 0 = .ok (.aload_n 0, 1) := by decide +kernel
theorem dX5_isAhead_1 : decode cX5_isAhead 1 = .ok (.iload_n 1, 1) := by decide +kernel
theorem dX5_isAhead_2 : decode cX5_isAhead 2 = .ok (.invokevirtual 71, 3) := by decide +kernel
theorem dX5_isAhead_5 : decode cX5_isAhead 5 = .ok (.astore_n 3, 1) := by decide +kernel
theorem dX5_isAhead_6 : decode cX5_isAhead 6 = .ok (.aload_n 0, 1) := by decide +kernel
theorem dX5_isAhead_7 : decode cX5_isAhead 7 = .ok (.iload_n 2, 1) := by decide +kernel
theorem dX5_isAhead_8 : decode cX5_isAhead 8 = .ok (.invokevirtual 71, 3) := by decide +kernel
theorem dX5_isAhead_11 : decode cX5_isAhead 11 = .ok (.astore 4, 2) := by decide +kernel
theorem dX5_isAhead_13 : decode cX5_isAhead 13 = .ok (.aload_n 3, 1) := by decide +kernel
theorem dX5_isAhead_14 : decode cX5_isAhead 14 = .ok (.ifnull 8, 3) := by decide +kernel
theorem dX5_isAhead_17 : decode cX5_isAhead 17 = .ok (.aload 4, 2) := by decide +kernel
theorem dX5_isAhead_19 : decode cX5_isAhead 19 = .ok (.ifnonnull 5, 3) := by decide +kernel
theorem dX5_isAhead_22 : decode cX5_isAhead 22 = .ok (.iconst 0, 1) := by decide +kernel
theorem dX5_isAhead_23 : decode cX5_isAhead 23 = .ok (.ireturn, 1) := by decide +kernel
theorem dX5_isAhead_24 : decode cX5_isAhead 24 = .ok (.aload_n 3, 1) := by decide +kernel
theorem dX5_isAhead_25 : decode cX5_isAhead 25 = .ok (.getfield 109, 3) := by decide +kernel
theorem dX5_isAhead_28 : decode cX5_isAhead 28 = .ok (.aload 4, 2) := by decide +kernel
theorem dX5_isAhead_30 : decode cX5_isAhead 30 = .ok (.getfield 109, 3) := by decide +kernel
theorem dX5_isAhead_33 : decode cX5_isAhead 33 = .ok (.if_icmp .eq 21, 3) := by decide +kernel
theorem dX5_isAhead_36 : decode cX5_isAhead 36 = .ok (.aload_n 3, 1) := by decide +kernel
theorem dX5_isAhead_37 : decode cX5_isAhead 37 = .ok (.getfield 109, 3) := by decide +kernel
theorem dX5_isAhead_40 : decode cX5_isAhead 40 = .ok (.aload 4, 2) := by decide +kernel
theorem dX5_isAhead_42 : decode cX5_isAhead 42 = .ok (.getfield 109, 3) := by decide +kernel
theorem dX5_isAhead_45 : decode cX5_isAhead 45 = .ok (.if_icmp .le 7, 3) := by decide +kernel
theorem dX5_isAhead_48 : decode cX5_isAhead 48 = .ok (.iconst 1, 1) := by decide +kernel
theorem dX5_isAhead_49 : decode cX5_isAhead 49 = .ok (.goto 4, 3) := by decide +kernel
theorem dX5_isAhead_52 : decode cX5_isAhead 52 = .ok (.iconst 0, 1) := by decide +kernel
theorem dX5_isAhead_53 : decode cX5_isAhead 53 = .ok (.ireturn, 1) := by decide +kernel
theorem dX5_isAhead_54 : decode cX5_isAhead 54 = .ok (.aload_n 3, 1) := by decide +kernel
theorem dX5_isAhead_55 : decode cX5_isAhead 55 = .ok (.getfield 112, 3) := by decide +kernel
theorem dX5_isAhead_58 : decode cX5_isAhead 58 = .ok (.aload 4, 2) := by decide +kernel
theorem dX5_isAhead_60 : decode cX5_isAhead 60 = .ok (.getfield 112, 3) := by decide +kernel
theorem dX5_isAhead_63 : decode cX5_isAhead 63 = .ok (.if_icmp .eq 23, 3) := by decide +kernel
theorem dX5_isAhead_66 : decode cX5_isAhead 66 = .ok (.aload_n 3, 1) := by decide +kernel
theorem dX5_isAhead_67 : decode cX5_isAhead 67 = .ok (.getfield 112, 3) := by decide +kernel
theorem dX5_isAhead_70 : decode cX5_isAhead 70 = .ok (.aload 4, 2) := by decide +kernel
theorem dX5_isAhead_72 : decode cX5_isAhead 72 = .ok (.getfield 112, 3) := by decide +kernel
theorem dX5_isAhead_75 : decode cX5_isAhead 75 = .ok (.if_icmp .le 7, 3) := by decide +kernel
theorem dX5_isAhead_78 : decode cX5_isAhead 78 = .ok (.iconst 1, 1) := by decide +kernel
theorem dX5_isAhead_79 : decode cX5_isAhead 79 = .ok (.goto 17, 3) := by decide +kernel
theorem dX5_isAhead_82 : decode cX5_isAhead 82 = .ok (.iconst 0, 1) := by decide +kernel
theorem dX5_isAhead_83 : decode cX5_isAhead 83 = .ok (.goto 13, 3) := by decide +kernel
theorem dX5_isAhead_86 : decode cX5_isAhead 86 = .ok (.iload_n 1, 1) := by decide +kernel
theorem dX5_isAhead_87 : decode cX5_isAhead 87 = .ok (.iload_n 2, 1) := by decide +kernel
theorem dX5_isAhead_88 : decode cX5_isAhead 88 = .ok (.if_icmp .ge 7, 3) := by decide +kernel
theorem dX5_isAhead_91 : decode cX5_isAhead 91 = .ok (.iconst 1, 1) := by decide +kernel
theorem dX5_isAhead_92 : decode cX5_isAhead 92 = .ok (.goto 4, 3) := by decide +kernel
theorem dX5_isAhead_95 : decode cX5_isAhead 95 = .ok (.iconst 0, 1) := by decide +kernel
theorem dX5_isAhead_96 : decode cX5_isAhead 96 = .ok (.ireturn, 1) := by decide +kernel
theorem dX5_number_0 : decode cX5_number 0 = .ok (.iload_n 1, 1) := by decide +kernel
theorem dX5_number_1 : decode cX5_number 1 = .ok (.tableswitch 135 0 12 #[67, 72, 77, 82, 87, 92, 97, 103, 109, 115, 120, 125, 130], 67) := by decide +kernel
theorem dX5_number_68 : decode cX5_number 68 = .ok (.aload_n 0, 1) := by decide +kernel
theorem dX5_number_69 : decode cX5_number 69 = .ok (.getfield 52, 3) := by decide +kernel
theorem dX5_number_72 : decode cX5_number 72 = .ok (.ireturn, 1) := by decide +kernel
theorem dX5_number_73 : decode cX5_number 73 = .ok (.aload_n 0, 1) := by decide +kernel
theorem dX5_number_74 : decode cX5_number 74 = .ok (.getfield 46, 3) := by decide +kernel
theorem dX5_number_77 : decode cX5_number 77 = .ok (.ireturn, 1) := by decide +kernel
theorem dX5_number_78 : decode cX5_number 78 = .ok (.aload_n 0, 1) := by decide +kernel
theorem dX5_number_79 : decode cX5_number 79 = .ok (.getfield 49, 3) := by decide +kernel
theorem dX5_number_82 : decode cX5_number 82 = .ok (.ireturn, 1) := by decide +kernel
theorem dX5_number_83 : decode cX5_number 83 = .ok (.aload_n 0, 1) := by decide +kernel
theorem dX5_number_84 : decode cX5_number 84 = .ok (.getfield 55, 3) := by decide +kernel
theorem dX5_number_87 : decode cX5_number 87 = .ok (.ireturn, 1) := by decide +kernel
theorem dX5_number_88 : decode cX5_number 88 = .ok (.aload_n 0, 1) := by decide +kernel
theorem dX5_number_89 : decode cX5_number 89 = .ok (.getfield 58, 3) := by decide +kernel
theorem dX5_number_92 : decode cX5_number 92 = .ok (.ireturn, 1) := by decide +kernel
theorem dX5_number_93 : decode cX5_number 93 = .ok (.aload_n 0, 1) := by decide +kernel
theorem dX5_number_94 : decode cX5_number 94 = .ok (.getfield 27, 3) := by decide +kernel
theorem dX5_number_97 : decode cX5_number 97 = .ok (.ireturn, 1) := by decide +kernel
theorem dX5_number_98 : decode cX5_number 98 = .ok (.aload_n 0, 1) := by decide +kernel
theorem dX5_number_99 : decode cX5_number 99 = .ok (.iconst 3, 1) := by decide +kernel
theorem dX5_number_100 : decode cX5_number 100 = .ok (.invokevirtual 95, 3) := by decide +kernel
theorem dX5_number_103 : decode cX5_number 103 = .ok (.ireturn, 1) := by decide +kernel
theorem dX5_number_104 : decode cX5_number 104 = .ok (.aload_n 0, 1) := by decide +kernel
theorem dX5_number_105 : decode cX5_number 105 = .ok (.iconst 4, 1) := by decide +kernel
theorem dX5_number_106 : decode cX5_number 106 = .ok (.invokevirtual 95, 3) := by decide +kernel
theorem dX5_number_109 : decode cX5_number 109 = .ok (.ireturn, 1) := by decide +kernel
theorem dX5_number_110 : decode cX5_number 110 = .ok (.aload_n 0, 1) := by decide +kernel
theorem dX5_number_111 : decode cX5_number 111 = .ok (.iconst 5, 1) := by decide +kernel
theorem dX5_number_112 : decode cX5_number 112 = .ok (.invokevirtual 95, 3) := by decide +kernel
theorem dX5_number_115 : decode cX5_number 115 = .ok (.ireturn, 1) := by decide +kernel
theorem dX5_number_116 : decode cX5_number 116 = .ok (.aload_n 0, 1) := by decide +kernel
theorem dX5_number_117 : decode cX5_number 117 = .ok (.getfield 31, 3) := by decide +kernel
theorem dX5_number_120 : decode cX5_number 120 = .ok (.ireturn, 1) := by decide +kernel
theorem dX5_number_121 : decode cX5_number 121 = .ok (.aload_n 0, 1) := by decide +kernel
theorem dX5_number_122 : decode cX5_number 122 = .ok (.getfield 61, 3) := by decide +kernel
theorem dX5_number_125 : decode cX5_number 125 = .ok (.ireturn, 1) := by decide +kernel
theorem dX5_number_126 : decode cX5_number 126 = .ok (.aload_n 0, 1) := by decide +kernel
theorem dX5_number_127 : decode cX5_number 127 = .ok (.getfield 34, 3) := by decide +kernel
theorem dX5_number_130 : decode cX5_number 130 = .ok (.ireturn, 1) := by decide +kernel
theorem dX5_number_131 : decode cX5_number 131 = .ok (.aload_n 0, 1) := by decide +kernel
theorem dX5_number_132 : decode cX5_number 132 = .ok (.invokevirtual 115, 3) := by decide +kernel
theorem dX5_number_135 : decode cX5_number 135 = .ok (.ireturn, 1) := by decide +kernel
theorem dX5_number_136 : decode cX5_number 136 = .ok (.aload_n 0, 1) := by decide +kernel
theorem dX5_number_137 : decode cX5_number 137 = .ok (.getfield 64, 3) := by decide +kernel
theorem dX5_number_140 : decode cX5_number 140 = .ok (.ireturn, 1) := by decide +kernel
theorem dX6_init_0 : decode cX6_init 0 = .ok (.aload_n 0, 1) := by decide +kernel
theorem dX6_init_1 : decode cX6_init 1 = .ok (.invokespecial 3, 3) := by decide +kernel
theorem dX6_init_4 : decode cX6_init 4 = .ok (.aload_n 0, 1) := by decide +kernel
theorem dX6_init_5 : decode cX6_init 5 = .ok (.new 9, 3) := by decide +kernel
theorem dX6_init_8 : decode cX6_init 8 = .ok (.dup, 1) := by decide +kernel
theorem dX6_init_9 : decode cX6_init 9 = .ok (.invokespecial 11, 3) := by decide +kernel
theorem dX6_init_12 : decode cX6_init 12 = .ok (.putfield 12, 3) := by decide +kernel
theorem dX6_init_15 : decode cX6_init 15 = .ok (.aload_n 0, 1) := by decide +kernel
theorem dX6_init_16 : decode cX6_init 16 = .ok (.new 18, 3) := by decide +kernel
theorem dX6_init_19 : decode cX6_init 19 = .ok (.dup, 1) := by decide +kernel
theorem dX6_init_20 : decode cX6_init 20 = .ok (.invokespecial 20, 3) := by decide +kernel
theorem dX6_init_23 : decode cX6_init 23 = .ok (.putfield 21, 3) := by decide +kernel
theorem dX6_init_26 : decode cX6_init 26 = .ok (.return_, 1) := by decide +kernel
theorem dX6_addHouse_0 : decode cX6_addHouse 0 = .ok (.iload_n 1, 1) := by decide +kernel
theorem dX6_addHouse_1 : decode cX6_addHouse 1 = .ok (.iconst 0, 1) := by decide +kernel
theorem dX6_addHouse_2 : decode cX6_addHouse 2 = .ok (.bipush 9, 2) := by decide +kernel
theorem dX6_addHouse_4 : decode cX6_addHouse 4 = .ok (.invokestatic 25, 3) := by decide +kernel
theorem dX6_addHouse_7 : decode cX6_addHouse 7 = .ok (.ifCond .ne 12, 3) := by decide +kernel
theorem dX6_addHouse_10 : decode cX6_addHouse 10 = .ok (.iload_n 2, 1) := by decide +kernel
theorem dX6_addHouse_11 : decode cX6_addHouse 11 = .ok (.iconst 0, 1) := by decide +kernel
theorem dX6_addHouse_12 : decode cX6_addHouse 12 = .ok (.iconst 2, 1) := by decide +kernel
theorem dX6_addHouse_13 : decode cX6_addHouse 13 = .ok (.invokestatic 25, 3) := by decide +kernel
theorem dX6_addHouse_16 : decode cX6_addHouse 16 = .ok (.ifCond .eq 13, 3) := by decide +kernel
theorem dX6_addHouse_19 : decode cX6_addHouse 19 = .ok (.aload_n 0, 1) := by decide +kernel
theorem dX6_addHouse_20 : decode cX6_addHouse 20 = .ok (.getfield 21, 3) := by decide +kernel
theorem dX6_addHouse_23 : decode cX6_addHouse 23 = .ok (.iconst 1, 1) := by decide +kernel
theorem dX6_addHouse_24 : decode cX6_addHouse 24 = .ok (.iconst 0, 1) := by decide +kernel
theorem dX6_addHouse_25 : decode cX6_addHouse 25 = .ok (.invokevirtual 29, 3) := by decide +kernel
theorem dX6_addHouse_28 : decode cX6_addHouse 28 = .ok (.ireturn, 1) := by decide +kernel
theorem dX6_addHouse_29 : decode cX6_addHouse 29 = .ok (.aload_n 0, 1) := by decide +kernel
theorem dX6_addHouse_30 : decode cX6_addHouse 30 = .ok (.getfield 12, 3) := by decide +kernel
theorem dX6_addHouse_33 : decode cX6_addHouse 33 = .ok (.getfield 33, 3) := by decide +kernel
theorem dX6_addHouse_36 : decode cX6_addHouse 36 = .ok (.istore_n 3, 1) := by decide +kernel
theorem dX6_addHouse_37 : decode cX6_addHouse 37 = .ok (.iload_n 3, 1) := by decide +kernel
theorem dX6_addHouse_38 : decode cX6_addHouse 38 = .ok (.bipush 8, 2) := by decide +kernel
theorem dX6_addHouse_40 : decode cX6_addHouse 40 = .ok (.if_icmp .lt 14, 3) := by decide +kernel
theorem dX6_addHouse_43 : decode cX6_addHouse 43 = .ok (.aload_n 0, 1) := by decide +kernel
theorem dX6_addHouse_44 : decode cX6_addHouse 44 = .ok (.getfield 21, 3) := by decide +kernel
theorem dX6_addHouse_47 : decode cX6_addHouse 47 = .ok (.iconst 2, 1) := by decide +kernel
theorem dX6_addHouse_48 : decode cX6_addHouse 48 = .ok (.bipush 8, 2) := by decide +kernel
theorem dX6_addHouse_50 : decode cX6_addHouse 50 = .ok (.invokevirtual 29, 3) := by decide +kernel
theorem dX6_addHouse_53 : decode cX6_addHouse 53 = .ok (.ireturn, 1) := by decide +kernel
theorem dX6_addHouse_54 : decode cX6_addHouse 54 = .ok (.aload_n 0, 1) := by decide +kernel
theorem dX6_addHouse_55 : decode cX6_addHouse 55 = .ok (.getfield 12, 3) := by decide +kernel
theorem dX6_addHouse_58 : decode cX6_addHouse 58 = .ok (.getfield 37, 3) := by decide +kernel
theorem dX6_addHouse_61 : decode cX6_addHouse 61 = .ok (.iload_n 3, 1) := by decide +kernel
theorem dX6_addHouse_62 : decode cX6_addHouse 62 = .ok (.aaload, 1) := by decide +kernel
theorem dX6_addHouse_63 : decode cX6_addHouse 63 = .ok (.iload_n 1, 1) := by decide +kernel
theorem dX6_addHouse_64 : decode cX6_addHouse 64 = .ok (.putfield 41, 3) := by decide +kernel
theorem dX6_addHouse_67 : decode cX6_addHouse 67 = .ok (.aload_n 0, 1) := by decide +kernel
theorem dX6_addHouse_68 : decode cX6_addHouse 68 = .ok (.getfield 12, 3) := by decide +kernel
theorem dX6_addHouse_71 : decode cX6_addHouse 71 = .ok (.getfield 37, 3) := by decide +kernel
theorem dX6_addHouse_74 : decode cX6_addHouse 74 = .ok (.iload_n 3, 1) := by decide +kernel
theorem dX6_addHouse_75 : decode cX6_addHouse 75 = .ok (.aaload, 1) := by decide +kernel
theorem dX6_addHouse_76 : decode cX6_addHouse 76 = .ok (.iload_n 2, 1) := by decide +kernel
theorem dX6_addHouse_77 : decode cX6_addHouse 77 = .ok (.putfield 46, 3) := by decide +kernel
theorem dX6_addHouse_80 : decode cX6_addHouse 80 = .ok (.aload_n 0, 1) := by decide +kernel
theorem dX6_addHouse_81 : decode cX6_addHouse 81 = .ok (.getfield 12, 3) := by decide +kernel
theorem dX6_addHouse_84 : decode cX6_addHouse 84 = .ok (.dup, 1) := by decide +kernel
theorem dX6_addHouse_85 : decode cX6_addHouse 85 = .ok (.getfield 33, 3) := by decide +kernel
theorem dX6_addHouse_88 : decode cX6_addHouse 88 = .ok (.iconst 1, 1) := by decide +kernel
theorem dX6_addHouse_89 : decode cX6_addHouse 89 = .ok (.iadd, 1) := by decide +kernel
theorem dX6_addHouse_90 : decode cX6_addHouse 90 = .ok (.putfield 33, 3) := by decide +kernel
theorem dX6_addHouse_93 : decode cX6_addHouse 93 = .ok (.iload_n 3, 1) := by decide +kernel
theorem dX6_addHouse_94 : decode cX6_addHouse 94 = .ok (.ireturn, 1) := by decide +kernel
theorem dX6_setOrder_0 : decode cX6_setOrder 0 = .ok (.aload_n 0, 1) := by decide +kernel
theorem dX6_setOrder_1 : decode cX6_setOrder 1 = .ok (.getfield 12, 3) := by decide +kernel
theorem dX6_setOrder_4 : decode cX6_setOrder 4 = .ok (.iload_n 1, 1) := by decide +kernel
theorem dX6_setOrder_5 : decode cX6_setOrder 5 = .ok (.invokevirtual 49, 3) := by decide +kernel
theorem dX6_setOrder_8 : decode cX6_setOrder 8 = .ok (.astore_n 3, 1) := by decide +kernel
theorem dX6_setOrder_9 : decode cX6_setOrder 9 = .ok (.aload_n 3, 1) := by decide +kernel
theorem dX6_setOrder_10 : decode cX6_setOrder 10 = .ok (.ifnonnull 13, 3) := by decide +kernel
theorem dX6_setOrder_13 : decode cX6_setOrder 13 = .ok (.aload_n 0, 1) := by decide +kernel
theorem dX6_setOrder_14 : decode cX6_setOrder 14 = .ok (.getfield 21, 3) := by decide +kernel
theorem dX6_setOrder_17 : decode cX6_setOrder 17 = .ok (.iconst 3, 1) := by decide +kernel
theorem dX6_setOrder_18 : decode cX6_setOrder 18 = .ok (.iload_n 1, 1) := by decide +kernel
theorem dX6_setOrder_19 : decode cX6_setOrder 19 = .ok (.invokevirtual 29, 3) := by decide +kernel
theorem dX6_setOrder_22 : decode cX6_setOrder 22 = .ok (.ireturn, 1) := by decide +kernel
theorem dX6_setOrder_23 : decode cX6_setOrder 23 = .ok (.iload_n 2, 1) := by decide +kernel
theorem dX6_setOrder_24 : decode cX6_setOrder 24 = .ok (.iconst 0, 1) := by decide +kernel
theorem dX6_setOrder_25 : decode cX6_setOrder 25 = .ok (.iconst 4, 1) := by decide +kernel
theorem dX6_setOrder_26 : decode cX6_setOrder 26 = .ok (.invokestatic 25, 3) := by decide +kernel
theorem dX6_setOrder_29 : decode cX6_setOrder 29 = .ok (.ifCond .eq 13, 3) := by decide +kernel
theorem dX6_setOrder_32 : decode cX6_setOrder 32 = .ok (.aload_n 0, 1) := by decide +kernel
theorem dX6_setOrder_33 : decode cX6_setOrder 33 = .ok (.getfield 21, 3) := by decide +kernel
theorem dX6_setOrder_36 : decode cX6_setOrder 36 = .ok (.iconst 1, 1) := by decide +kernel
theorem dX6_setOrder_37 : decode cX6_setOrder 37 = .ok (.iconst 0, 1) := by decide +kernel
theorem dX6_setOrder_38 : decode cX6_setOrder 38 = .ok (.invokevirtual 29, 3) := by decide +kernel
theorem dX6_setOrder_41 : decode cX6_setOrder 41 = .ok (.ireturn, 1) := by decide +kernel
theorem dX6_setOrder_42 : decode cX6_setOrder 42 = .ok (.aload_n 3, 1) := by decide +kernel
theorem dX6_setOrder_43 : decode cX6_setOrder 43 = .ok (.getfield 53, 3) := by decide +kernel
theorem dX6_setOrder_46 : decode cX6_setOrder 46 = .ok (.istore 4, 2) := by decide +kernel
theorem dX6_setOrder_48 : decode cX6_setOrder 48 = .ok (.aload_n 3, 1) := by decide +kernel
theorem dX6_setOrder_49 : decode cX6_setOrder 49 = .ok (.iload_n 2, 1) := by decide +kernel
theorem dX6_setOrder_50 : decode cX6_setOrder 50 = .ok (.putfield 53, 3) := by decide +kernel
theorem dX6_setOrder_53 : decode cX6_setOrder 53 = .ok (.iload 4, 2) := by decide +kernel
theorem dX6_setOrder_55 : decode cX6_setOrder 55 = .ok (.ireturn, 1) := by decide +kernel
theorem dX6_addCarrier_0 : decode cX6_addCarrier 0 = .ok (.iload_n 1, 1) := by decide +kernel
theorem dX6_addCarrier_1 : decode cX6_addCarrier 1 = .ok (.iconst 1, 1) := by decide +kernel
theorem dX6_addCarrier_2 : decode cX6_addCarrier 2 = .ok (.bipush 9, 2) := by decide +kernel
theorem dX6_addCarrier_4 : decode cX6_addCarrier 4 = .ok (.invokestatic 25, 3) := by decide +kernel
theorem dX6_addCarrier_7 : decode cX6_addCarrier 7 = .ok (.ifCond .eq 13, 3) := by decide +kernel
theorem dX6_addCarrier_10 : decode cX6_addCarrier 10 = .ok (.aload_n 0, 1) := by decide +kernel
theorem dX6_addCarrier_11 : decode cX6_addCarrier 11 = .ok (.getfield 21, 3) := by decide +kernel
theorem dX6_addCarrier_14 : decode cX6_addCarrier 14 = .ok (.iconst 1, 1) := by decide +kernel
theorem dX6_addCarrier_15 : decode cX6_addCarrier 15 = .ok (.iconst 0, 1) := by decide +kernel
theorem dX6_addCarrier_16 : decode cX6_addCarrier 16 = .ok (.invokevirtual 29, 3) := by decide +kernel
theorem dX6_addCarrier_19 : decode cX6_addCarrier 19 = .ok (.ireturn, 1) := by decide +kernel
theorem dX6_addCarrier_20 : decode cX6_addCarrier 20 = .ok (.aload_n 0, 1) := by decide +kernel
theorem dX6_addCarrier_21 : decode cX6_addCarrier 21 = .ok (.getfield 12, 3) := by decide +kernel
theorem dX6_addCarrier_24 : decode cX6_addCarrier 24 = .ok (.getfield 56, 3) := by decide +kernel
theorem dX6_addCarrier_27 : decode cX6_addCarrier 27 = .ok (.istore_n 2, 1) := by decide +kernel
theorem dX6_addCarrier_28 : decode cX6_addCarrier 28 = .ok (.iload_n 2, 1) := by decide +kernel
theorem dX6_addCarrier_29 : decode cX6_addCarrier 29 = .ok (.iconst 4, 1) := by decide +kernel
theorem dX6_addCarrier_30 : decode cX6_addCarrier 30 = .ok (.if_icmp .lt 13, 3) := by decide +kernel
theorem dX6_addCarrier_33 : decode cX6_addCarrier 33 = .ok (.aload_n 0, 1) := by decide +kernel
theorem dX6_addCarrier_34 : decode cX6_addCarrier 34 = .ok (.getfield 21, 3) := by decide +kernel
theorem dX6_addCarrier_37 : decode cX6_addCarrier 37 = .ok (.iconst 2, 1) := by decide +kernel
theorem dX6_addCarrier_38 : decode cX6_addCarrier 38 = .ok (.iconst 4, 1) := by decide +kernel
theorem dX6_addCarrier_39 : decode cX6_addCarrier 39 = .ok (.invokevirtual 29, 3) := by decide +kernel
theorem dX6_addCarrier_42 : decode cX6_addCarrier 42 = .ok (.ireturn, 1) := by decide +kernel
theorem dX6_addCarrier_43 : decode cX6_addCarrier 43 = .ok (.aload_n 0, 1) := by decide +kernel
theorem dX6_addCarrier_44 : decode cX6_addCarrier 44 = .ok (.getfield 12, 3) := by decide +kernel
theorem dX6_addCarrier_47 : decode cX6_addCarrier 47 = .ok (.getfield 59, 3) := by decide +kernel
theorem dX6_addCarrier_50 : decode cX6_addCarrier 50 = .ok (.iload_n 2, 1) := by decide +kernel
theorem dX6_addCarrier_51 : decode cX6_addCarrier 51 = .ok (.aaload, 1) := by decide +kernel
theorem dX6_addCarrier_52 : decode cX6_addCarrier 52 = .ok (.iload_n 1, 1) := by decide +kernel
theorem dX6_addCarrier_53 : decode cX6_addCarrier 53 = .ok (.putfield 63, 3) := by decide +kernel
theorem dX6_addCarrier_56 : decode cX6_addCarrier 56 = .ok (.aload_n 0, 1) := by decide +kernel
theorem dX6_addCarrier_57 : decode cX6_addCarrier 57 = .ok (.getfield 12, 3) := by decide +kernel
theorem dX6_addCarrier_60 : decode cX6_addCarrier 60 = .ok (.dup, 1) := by decide +kernel
theorem dX6_addCarrier_61 : decode cX6_addCarrier 61 = .ok (.getfield 56, 3) := by decide +kernel
theorem dX6_addCarrier_64 : decode cX6_addCarrier 64 = .ok (.iconst 1, 1) := by decide +kernel
theorem dX6_addCarrier_65 : decode cX6_addCarrier 65 = .ok (.iadd, 1) := by decide +kernel
theorem dX6_addCarrier_66 : decode cX6_addCarrier 66 = .ok (.putfield 56, 3) := by decide +kernel
theorem dX6_addCarrier_69 : decode cX6_addCarrier 69 = .ok (.iload_n 2, 1) := by decide +kernel
theorem dX6_addCarrier_70 : decode cX6_addCarrier 70 = .ok (.ireturn, 1) := by decide +kernel
theorem dX6_loadCart_0 : decode cX6_loadCart 0 = .ok (.iload_n 1, 1) := by decide +kernel
theorem dX6_loadCart_1 : decode cX6_loadCart 1 = .ok (.iconst 1, 1) := by decide +kernel
theorem dX6_loadCart_2 : decode cX6_loadCart 2 = .ok (.bipush 30, 2) := by decide +kernel
theorem dX6_loadCart_4 : decode cX6_loadCart 4 = .ok (.invokestatic 25, 3) := by decide +kernel
theorem dX6_loadCart_7 : decode cX6_loadCart 7 = .ok (.ifCond .eq 13, 3) := by decide +kernel
theorem dX6_loadCart_10 : decode cX6_loadCart 10 = .ok (.aload_n 0, 1) := by decide +kernel
theorem dX6_loadCart_11 : decode cX6_loadCart 11 = .ok (.getfield 21, 3) := by decide +kernel
theorem dX6_loadCart_14 : decode cX6_loadCart 14 = .ok (.iconst 1, 1) := by decide +kernel
theorem dX6_loadCart_15 : decode cX6_loadCart 15 = .ok (.iconst 0, 1) := by decide +kernel
theorem dX6_loadCart_16 : decode cX6_loadCart 16 = .ok (.invokevirtual 29, 3) := by decide +kernel
theorem dX6_loadCart_19 : decode cX6_loadCart 19 = .ok (.ireturn, 1) := by decide +kernel
theorem dX6_loadCart_20 : decode cX6_loadCart 20 = .ok (.aload_n 0, 1) := by decide +kernel
theorem dX6_loadCart_21 : decode cX6_loadCart 21 = .ok (.getfield 12, 3) := by decide +kernel
theorem dX6_loadCart_24 : decode cX6_loadCart 24 = .ok (.getfield 68, 3) := by decide +kernel
theorem dX6_loadCart_27 : decode cX6_loadCart 27 = .ok (.ifCond .eq 20, 3) := by decide +kernel
theorem dX6_loadCart_30 : decode cX6_loadCart 30 = .ok (.aload_n 0, 1) := by decide +kernel
theorem dX6_loadCart_31 : decode cX6_loadCart 31 = .ok (.getfield 21, 3) := by decide +kernel
theorem dX6_loadCart_34 : decode cX6_loadCart 34 = .ok (.bipush 6, 2) := by decide +kernel
theorem dX6_loadCart_36 : decode cX6_loadCart 36 = .ok (.aload_n 0, 1) := by decide +kernel
theorem dX6_loadCart_37 : decode cX6_loadCart 37 = .ok (.getfield 12, 3) := by decide +kernel
theorem dX6_loadCart_40 : decode cX6_loadCart 40 = .ok (.getfield 68, 3) := by decide +kernel
theorem dX6_loadCart_43 : decode cX6_loadCart 43 = .ok (.invokevirtual 29, 3) := by decide +kernel
theorem dX6_loadCart_46 : decode cX6_loadCart 46 = .ok (.ireturn, 1) := by decide +kernel
theorem dX6_loadCart_47 : decode cX6_loadCart 47 = .ok (.iload_n 1, 1) := by decide +kernel
theorem dX6_loadCart_48 : decode cX6_loadCart 48 = .ok (.aload_n 0, 1) := by decide +kernel
theorem dX6_loadCart_49 : decode cX6_loadCart 49 = .ok (.getfield 12, 3) := by decide +kernel
theorem dX6_loadCart_52 : decode cX6_loadCart 52 = .ok (.getfield 71, 3) := by decide +kernel
theorem dX6_loadCart_55 : decode cX6_loadCart 55 = .ok (.if_icmp .le 20, 3) := by decide +kernel
theorem dX6_loadCart_58 : decode cX6_loadCart 58 = .ok (.aload_n 0, 1) := by decide +kernel
theorem dX6_loadCart_59 : decode cX6_loadCart 59 = .ok (.getfield 21, 3) := by decide +kernel
theorem dX6_loadCart_62 : decode cX6_loadCart 62 = .ok (.bipush 8, 2) := by decide +kernel
theorem dX6_loadCart_64 : decode cX6_loadCart 64 = .ok (.aload_n 0, 1) := by decide +kernel
theorem dX6_loadCart_65 : decode cX6_loadCart 65 = .ok (.getfield 12, 3) := by decide +kernel
theorem dX6_loadCart_68 : decode cX6_loadCart 68 = .ok (.getfield 71, 3) := by decide +kernel
theorem dX6_loadCart_71 : decode cX6_loadCart 71 = .ok (.invokevirtual 29, 3) := by decide +kernel
theorem dX6_loadCart_74 : decode cX6_loadCart 74 = .ok (.ireturn, 1) := by decide +kernel
theorem dX6_loadCart_75 : decode cX6_loadCart 75 = .ok (.aload_n 0, 1) := by decide +kernel
theorem dX6_loadCart_76 : decode cX6_loadCart 76 = .ok (.getfield 12, 3) := by decide +kernel
theorem dX6_loadCart_79 : decode cX6_loadCart 79 = .ok (.getfield 74, 3) := by decide +kernel
theorem dX6_loadCart_82 : decode cX6_loadCart 82 = .ok (.iload_n 1, 1) := by decide +kernel
theorem dX6_loadCart_83 : decode cX6_loadCart 83 = .ok (.iadd, 1) := by decide +kernel
theorem dX6_loadCart_84 : decode cX6_loadCart 84 = .ok (.bipush 30, 2) := by decide +kernel
theorem dX6_loadCart_86 : decode cX6_loadCart 86 = .ok (.if_icmp .le 14, 3) := by decide +kernel
theorem dX6_loadCart_89 : decode cX6_loadCart 89 = .ok (.aload_n 0, 1) := by decide +kernel
theorem dX6_loadCart_90 : decode cX6_loadCart 90 = .ok (.getfield 21, 3) := by decide +kernel
theorem dX6_loadCart_93 : decode cX6_loadCart 93 = .ok (.iconst 2, 1) := by decide +kernel
theorem dX6_loadCart_94 : decode cX6_loadCart 94 = .ok (.bipush 30, 2) := by decide +kernel
theorem dX6_loadCart_96 : decode cX6_loadCart 96 = .ok (.invokevirtual 29, 3) := by decide +kernel
theorem dX6_loadCart_99 : decode cX6_loadCart 99 = .ok (.ireturn, 1) := by decide +kernel
theorem dX6_loadCart_100 : decode cX6_loadCart 100 = .ok (.aload_n 0, 1) := by decide +kernel
theorem dX6_loadCart_101 : decode cX6_loadCart 101 = .ok (.getfield 12, 3) := by decide +kernel
theorem dX6_loadCart_104 : decode cX6_loadCart 104 = .ok (.dup, 1) := by decide +kernel
theorem dX6_loadCart_105 : decode cX6_loadCart 105 = .ok (.getfield 71, 3) := by decide +kernel
theorem dX6_loadCart_108 : decode cX6_loadCart 108 = .ok (.iload_n 1, 1) := by decide +kernel
theorem dX6_loadCart_109 : decode cX6_loadCart 109 = .ok (.isub, 1) := by decide +kernel
theorem dX6_loadCart_110 : decode cX6_loadCart 110 = .ok (.putfield 71, 3) := by decide +kernel
theorem dX6_loadCart_113 : decode cX6_loadCart 113 = .ok (.aload_n 0, 1) := by decide +kernel
theorem dX6_loadCart_114 : decode cX6_loadCart 114 = .ok (.getfield 12, 3) := by decide +kernel
theorem dX6_loadCart_117 : decode cX6_loadCart 117 = .ok (.dup, 1) := by decide +kernel
theorem dX6_loadCart_118 : decode cX6_loadCart 118 = .ok (.getfield 74, 3) := by decide +kernel
theorem dX6_loadCart_121 : decode cX6_loadCart 121 = .ok (.iload_n 1, 1) := by decide +kernel
theorem dX6_loadCart_122 : decode cX6_loadCart 122 = .ok (.iadd, 1) := by decide +kernel
theorem dX6_loadCart_123 : decode cX6_loadCart 123 = .ok (.putfield 74, 3) := by decide +kernel
theorem dX6_loadCart_126 : decode cX6_loadCart 126 = .ok (.aload_n 0, 1) := by decide +kernel
theorem dX6_loadCart_127 : decode cX6_loadCart 127 = .ok (.getfield 12, 3) := by decide +kernel
theorem dX6_loadCart_130 : decode cX6_loadCart 130 = .ok (.getfield 74, 3) := by decide +kernel
theorem dX6_loadCart_133 : decode cX6_loadCart 133 = .ok (.ireturn, 1) := by decide +kernel
theorem dX6_driveCart_0 : decode cX6_driveCart 0 = .ok (.iload_n 1, 1) := by decide +kernel
theorem dX6_driveCart_1 : decode cX6_driveCart 1 = .ok (.iconst 0, 1) := by decide +kernel
theorem dX6_driveCart_2 : decode cX6_driveCart 2 = .ok (.aload_n 0, 1) := by decide +kernel
theorem dX6_driveCart_3 : decode cX6_driveCart 3 = .ok (.getfield 12, 3) := by decide +kernel
theorem dX6_driveCart_6 : decode cX6_driveCart 6 = .ok (.getfield 33, 3) := by decide +kernel
theorem dX6_driveCart_9 : decode cX6_driveCart 9 = .ok (.invokestatic 25, 3) := by decide +kernel
theorem dX6_driveCart_12 : decode cX6_driveCart 12 = .ok (.ifCond .eq 13, 3) := by decide +kernel
theorem dX6_driveCart_15 : decode cX6_driveCart 15 = .ok (.aload_n 0, 1) := by decide +kernel
theorem dX6_driveCart_16 : decode cX6_driveCart 16 = .ok (.getfield 21, 3) := by decide +kernel
theorem dX6_driveCart_19 : decode cX6_driveCart 19 = .ok (.iconst 3, 1) := by decide +kernel
theorem dX6_driveCart_20 : decode cX6_driveCart 20 = .ok (.iload_n 1, 1) := by decide +kernel
theorem dX6_driveCart_21 : decode cX6_driveCart 21 = .ok (.invokevirtual 29, 3) := by decide +kernel
theorem dX6_driveCart_24 : decode cX6_driveCart 24 = .ok (.ireturn, 1) := by decide +kernel
theorem dX6_driveCart_25 : decode cX6_driveCart 25 = .ok (.iload_n 1, 1) := by decide +kernel
theorem dX6_driveCart_26 : decode cX6_driveCart 26 = .ok (.aload_n 0, 1) := by decide +kernel
theorem dX6_driveCart_27 : decode cX6_driveCart 27 = .ok (.getfield 12, 3) := by decide +kernel
theorem dX6_driveCart_30 : decode cX6_driveCart 30 = .ok (.getfield 68, 3) := by decide +kernel
theorem dX6_driveCart_33 : decode cX6_driveCart 33 = .ok (.if_icmp .ne 13, 3) := by decide +kernel
theorem dX6_driveCart_36 : decode cX6_driveCart 36 = .ok (.aload_n 0, 1) := by decide +kernel
theorem dX6_driveCart_37 : decode cX6_driveCart 37 = .ok (.getfield 21, 3) := by decide +kernel
theorem dX6_driveCart_40 : decode cX6_driveCart 40 = .ok (.iconst 4, 1) := by decide +kernel
theorem dX6_driveCart_41 : decode cX6_driveCart 41 = .ok (.iload_n 1, 1) := by decide +kernel
theorem dX6_driveCart_42 : decode cX6_driveCart 42 = .ok (.invokevirtual 29, 3) := by decide +kernel
theorem dX6_driveCart_45 : decode cX6_driveCart 45 = .ok (.ireturn, 1) := by decide +kernel
theorem dX6_driveCart_46 : decode cX6_driveCart 46 = .ok (.aload_n 0, 1) := by decide +kernel
theorem dX6_driveCart_47 : decode cX6_driveCart 47 = .ok (.getfield 12, 3) := by decide +kernel
theorem dX6_driveCart_50 : decode cX6_driveCart 50 = .ok (.invokevirtual 77, 3) := by decide +kernel
theorem dX6_driveCart_53 : decode cX6_driveCart 53 = .ok (.istore_n 2, 1) := by decide +kernel
theorem dX6_driveCart_54 : decode cX6_driveCart 54 = .ok (.iload_n 1, 1) := by decide +kernel
theorem dX6_driveCart_55 : decode cX6_driveCart 55 = .ok (.aload_n 0, 1) := by decide +kernel
theorem dX6_driveCart_56 : decode cX6_driveCart 56 = .ok (.getfield 12, 3) := by decide +kernel
theorem dX6_driveCart_59 : decode cX6_driveCart 59 = .ok (.getfield 68, 3) := by decide +kernel
theorem dX6_driveCart_62 : decode cX6_driveCart 62 = .ok (.if_icmp .le 18, 3) := by decide +kernel
theorem dX6_driveCart_65 : decode cX6_driveCart 65 = .ok (.iload_n 2, 1) := by decide +kernel
theorem dX6_driveCart_66 : decode cX6_driveCart 66 = .ok (.iconst 3, 1) := by decide +kernel
theorem dX6_driveCart_67 : decode cX6_driveCart 67 = .ok (.if_icmp .ge 13, 3) := by decide +kernel
theorem dX6_driveCart_70 : decode cX6_driveCart 70 = .ok (.aload_n 0, 1) := by decide +kernel
theorem dX6_driveCart_71 : decode cX6_driveCart 71 = .ok (.getfield 21, 3) := by decide +kernel
theorem dX6_driveCart_74 : decode cX6_driveCart 74 = .ok (.iconst 5, 1) := by decide +kernel
theorem dX6_driveCart_75 : decode cX6_driveCart 75 = .ok (.iload_n 2, 1) := by decide +kernel
theorem dX6_driveCart_76 : decode cX6_driveCart 76 = .ok (.invokevirtual 29, 3) := by decide +kernel
theorem dX6_driveCart_79 : decode cX6_driveCart 79 = .ok (.ireturn, 1) := by decide +kernel
theorem dX6_driveCart_80 : decode cX6_driveCart 80 = .ok (.aload_n 0, 1) := by decide +kernel
theorem dX6_driveCart_81 : decode cX6_driveCart 81 = .ok (.getfield 12, 3) := by decide +kernel
theorem dX6_driveCart_84 : decode cX6_driveCart 84 = .ok (.iconst 0, 1) := by decide +kernel
theorem dX6_driveCart_85 : decode cX6_driveCart 85 = .ok (.iload_n 1, 1) := by decide +kernel
theorem dX6_driveCart_86 : decode cX6_driveCart 86 = .ok (.aload_n 0, 1) := by decide +kernel
theorem dX6_driveCart_87 : decode cX6_driveCart 87 = .ok (.getfield 12, 3) := by decide +kernel
theorem dX6_driveCart_90 : decode cX6_driveCart 90 = .ok (.getfield 68, 3) := by decide +kernel
theorem dX6_driveCart_93 : decode cX6_driveCart 93 = .ok (.isub, 1) := by decide +kernel
theorem dX6_driveCart_94 : decode cX6_driveCart 94 = .ok (.invokestatic 81, 3) := by decide +kernel
theorem dX6_driveCart_97 : decode cX6_driveCart 97 = .ok (.invokevirtual 86, 3) := by decide +kernel
theorem dX6_driveCart_100 : decode cX6_driveCart 100 = .ok (.aload_n 0, 1) := by decide +kernel
theorem dX6_driveCart_101 : decode cX6_driveCart 101 = .ok (.getfield 12, 3) := by decide +kernel
theorem dX6_driveCart_104 : decode cX6_driveCart 104 = .ok (.iload_n 1, 1) := by decide +kernel
theorem dX6_driveCart_105 : decode cX6_driveCart 105 = .ok (.putfield 68, 3) := by decide +kernel
theorem dX6_driveCart_108 : decode cX6_driveCart 108 = .ok (.aload_n 0, 1) := by decide +kernel
theorem dX6_driveCart_109 : decode cX6_driveCart 109 = .ok (.getfield 12, 3) := by decide +kernel
theorem dX6_driveCart_112 : decode cX6_driveCart 112 = .ok (.invokevirtual 77, 3) := by decide +kernel
theorem dX6_driveCart_115 : decode cX6_driveCart 115 = .ok (.ireturn, 1) := by decide +kernel
theorem dX6_carryUp_0 : decode cX6_carryUp 0 = .ok (.aload_n 0, 1) := by decide +kernel
theorem dX6_carryUp_1 : decode cX6_carryUp 1 = .ok (.getfield 12, 3) := by decide +kernel
theorem dX6_carryUp_4 : decode cX6_carryUp 4 = .ok (.iload_n 1, 1) := by decide +kernel
theorem dX6_carryUp_5 : decode cX6_carryUp 5 = .ok (.invokevirtual 90, 3) := by decide +kernel
theorem dX6_carryUp_8 : decode cX6_carryUp 8 = .ok (.astore_n 3, 1) := by decide +kernel
theorem dX6_carryUp_9 : decode cX6_carryUp 9 = .ok (.aload_n 3, 1) := by decide +kernel
theorem dX6_carryUp_10 : decode cX6_carryUp 10 = .ok (.ifnonnull 13, 3) := by decide +kernel
theorem dX6_carryUp_13 : decode cX6_carryUp 13 = .ok (.aload_n 0, 1) := by decide +kernel
theorem dX6_carryUp_14 : decode cX6_carryUp 14 = .ok (.getfield 21, 3) := by decide +kernel
theorem dX6_carryUp_17 : decode cX6_carryUp 17 = .ok (.iconst 3, 1) := by decide +kernel
theorem dX6_carryUp_18 : decode cX6_carryUp 18 = .ok (.iload_n 1, 1) := by decide +kernel
theorem dX6_carryUp_19 : decode cX6_carryUp 19 = .ok (.invokevirtual 29, 3) := by decide +kernel
theorem dX6_carryUp_22 : decode cX6_carryUp 22 = .ok (.ireturn, 1) := by decide +kernel
theorem dX6_carryUp_23 : decode cX6_carryUp 23 = .ok (.iload_n 2, 1) := by decide +kernel
theorem dX6_carryUp_24 : decode cX6_carryUp 24 = .ok (.iconst 1, 1) := by decide +kernel
theorem dX6_carryUp_25 : decode cX6_carryUp 25 = .ok (.bipush 9, 2) := by decide +kernel
theorem dX6_carryUp_27 : decode cX6_carryUp 27 = .ok (.invokestatic 25, 3) := by decide +kernel
theorem dX6_carryUp_30 : decode cX6_carryUp 30 = .ok (.ifCond .eq 13, 3) := by decide +kernel
theorem dX6_carryUp_33 : decode cX6_carryUp 33 = .ok (.aload_n 0, 1) := by decide +kernel
theorem dX6_carryUp_34 : decode cX6_carryUp 34 = .ok (.getfield 21, 3) := by decide +kernel
theorem dX6_carryUp_37 : decode cX6_carryUp 37 = .ok (.iconst 1, 1) := by decide +kernel
theorem dX6_carryUp_38 : decode cX6_carryUp 38 = .ok (.iconst 0, 1) := by decide +kernel
theorem dX6_carryUp_39 : decode cX6_carryUp 39 = .ok (.invokevirtual 29, 3) := by decide +kernel
theorem dX6_carryUp_42 : decode cX6_carryUp 42 = .ok (.ireturn, 1) := by decide +kernel
theorem dX6_carryUp_43 : decode cX6_carryUp 43 = .ok (.aload_n 0, 1) := by decide +kernel
theorem dX6_carryUp_44 : decode cX6_carryUp 44 = .ok (.getfield 12, 3) := by decide +kernel
theorem dX6_carryUp_47 : decode cX6_carryUp 47 = .ok (.invokevirtual 94, 3) := by decide +kernel
theorem dX6_carryUp_50 : decode cX6_carryUp 50 = .ok (.astore 4, 2) := by decide +kernel
theorem dX6_carryUp_52 : decode cX6_carryUp 52 = .ok (.aload 4, 2) := by decide +kernel
theorem dX6_carryUp_54 : decode cX6_carryUp 54 = .ok (.ifnonnull 14, 3) := by decide +kernel
theorem dX6_carryUp_57 : decode cX6_carryUp 57 = .ok (.aload_n 0, 1) := by decide +kernel
theorem dX6_carryUp_58 : decode cX6_carryUp 58 = .ok (.getfield 21, 3) := by decide +kernel
theorem dX6_carryUp_61 : decode cX6_carryUp 61 = .ok (.bipush 7, 2) := by decide +kernel
theorem dX6_carryUp_63 : decode cX6_carryUp 63 = .ok (.iconst 0, 1) := by decide +kernel
theorem dX6_carryUp_64 : decode cX6_carryUp 64 = .ok (.invokevirtual 29, 3) := by decide +kernel
theorem dX6_carryUp_67 : decode cX6_carryUp 67 = .ok (.ireturn, 1) := by decide +kernel
theorem dX6_carryUp_68 : decode cX6_carryUp 68 = .ok (.aload_n 0, 1) := by decide +kernel
theorem dX6_carryUp_69 : decode cX6_carryUp 69 = .ok (.aload 4, 2) := by decide +kernel
theorem dX6_carryUp_71 : decode cX6_carryUp 71 = .ok (.iload_n 2, 1) := by decide +kernel
theorem dX6_carryUp_72 : decode cX6_carryUp 72 = .ok (.invokevirtual 98, 3) := by decide +kernel
theorem dX6_carryUp_75 : decode cX6_carryUp 75 = .ok (.ifCond .eq 5, 3) := by decide +kernel
theorem dX6_carryUp_78 : decode cX6_carryUp 78 = .ok (.iconst (-1), 1) := by decide +kernel
theorem dX6_carryUp_79 : decode cX6_carryUp 79 = .ok (.ireturn, 1) := by decide +kernel
theorem dX6_carryUp_80 : decode cX6_carryUp 80 = .ok (.aload_n 3, 1) := by decide +kernel
theorem dX6_carryUp_81 : decode cX6_carryUp 81 = .ok (.getfield 102, 3) := by decide +kernel
theorem dX6_carryUp_84 : decode cX6_carryUp 84 = .ok (.iload_n 2, 1) := by decide +kernel
theorem dX6_carryUp_85 : decode cX6_carryUp 85 = .ok (.aload_n 3, 1) := by decide +kernel
theorem dX6_carryUp_86 : decode cX6_carryUp 86 = .ok (.aload 4, 2) := by decide +kernel
theorem dX6_carryUp_88 : decode cX6_carryUp 88 = .ok (.invokevirtual 105, 3) := by decide +kernel
theorem dX6_carryUp_91 : decode cX6_carryUp 91 = .ok (.imul, 1) := by decide +kernel
theorem dX6_carryUp_92 : decode cX6_carryUp 92 = .ok (.iadd, 1) := by decide +kernel
theorem dX6_carryUp_93 : decode cX6_carryUp 93 = .ok (.istore 5, 2) := by decide +kernel
theorem dX6_carryUp_95 : decode cX6_carryUp 95 = .ok (.iload 5, 2) := by decide +kernel
theorem dX6_carryUp_97 : decode cX6_carryUp 97 = .ok (.bipush 30, 2) := by decide +kernel
theorem dX6_carryUp_99 : decode cX6_carryUp 99 = .ok (.if_icmp .le 15, 3) := by decide +kernel
theorem dX6_carryUp_102 : decode cX6_carryUp 102 = .ok (.aload_n 0, 1) := by decide +kernel
theorem dX6_carryUp_103 : decode cX6_carryUp 103 = .ok (.getfield 21, 3) := by decide +kernel
theorem dX6_carryUp_106 : decode cX6_carryUp 106 = .ok (.bipush 13, 2) := by decide +kernel
theorem dX6_carryUp_108 : decode cX6_carryUp 108 = .ok (.iload 5, 2) := by decide +kernel
theorem dX6_carryUp_110 : decode cX6_carryUp 110 = .ok (.invokevirtual 29, 3) := by decide +kernel
theorem dX6_carryUp_113 : decode cX6_carryUp 113 = .ok (.ireturn, 1) := by decide +kernel
theorem dX6_carryUp_114 : decode cX6_carryUp 114 = .ok (.iconst 0, 1) := by decide +kernel
theorem dX6_carryUp_115 : decode cX6_carryUp 115 = .ok (.istore 6, 2) := by decide +kernel
theorem dX6_carryUp_117 : decode cX6_carryUp 117 = .ok (.iload 6, 2) := by decide +kernel
theorem dX6_carryUp_119 : decode cX6_carryUp 119 = .ok (.iload_n 2, 1) := by decide +kernel
theorem dX6_carryUp_120 : decode cX6_carryUp 120 = .ok (.if_icmp .ge 15, 3) := by decide +kernel
theorem dX6_carryUp_123 : decode cX6_carryUp 123 = .ok (.aload_n 3, 1) := by decide +kernel
theorem dX6_carryUp_124 : decode cX6_carryUp 124 = .ok (.aload 4, 2) := by decide +kernel
theorem dX6_carryUp_126 : decode cX6_carryUp 126 = .ok (.invokevirtual 109, 3) := by decide +kernel
theorem dX6_carryUp_129 : decode cX6_carryUp 129 = .ok (.iinc 6 1, 3) := by decide +kernel
theorem dX6_carryUp_132 : decode cX6_carryUp 132 = .ok (.goto (-15), 3) := by decide +kernel
theorem dX6_carryUp_135 : decode cX6_carryUp 135 = .ok (.aload_n 0, 1) := by decide +kernel
theorem dX6_carryUp_136 : decode cX6_carryUp 136 = .ok (.getfield 12, 3) := by decide +kernel
theorem dX6_carryUp_139 : decode cX6_carryUp 139 = .ok (.dup, 1) := by decide +kernel
theorem dX6_carryUp_140 : decode cX6_carryUp 140 = .ok (.getfield 74, 3) := by decide +kernel
theorem dX6_carryUp_143 : decode cX6_carryUp 143 = .ok (.iload_n 2, 1) := by decide +kernel
theorem dX6_carryUp_144 : decode cX6_carryUp 144 = .ok (.isub, 1) := by decide +kernel
theorem dX6_carryUp_145 : decode cX6_carryUp 145 = .ok (.putfield 74, 3) := by decide +kernel
theorem dX6_carryUp_148 : decode cX6_carryUp 148 = .ok (.aload_n 3, 1) := by decide +kernel
theorem dX6_carryUp_149 : decode cX6_carryUp 149 = .ok (.getfield 102, 3) := by decide +kernel
theorem dX6_carryUp_152 : decode cX6_carryUp 152 = .ok (.ireturn, 1) := by decide +kernel
theorem dX6_isRefusedByHouse_0 : decode cX6_isRefusedByHouse 0 = .ok (.iconst 0, 1) := by decide +kernel
theorem dX6_isRefusedByHouse_1 : decode cX6_isRefusedByHouse 1 = .ok (.istore_n 3, 1) := by decide +kernel
theorem dX6_isRefusedByHouse_2 : decode cX6_isRefusedByHouse 2 = .ok (.iload_n 2, 1) := by decide +kernel
theorem dX6_isRefusedByHouse_3 : decode cX6_isRefusedByHouse 3 = .ok (.aload_n 0, 1) := by decide +kernel
theorem dX6_isRefusedByHouse_4 : decode cX6_isRefusedByHouse 4 = .ok (.getfield 12, 3) := by decide +kernel
theorem dX6_isRefusedByHouse_7 : decode cX6_isRefusedByHouse 7 = .ok (.getfield 74, 3) := by decide +kernel
theorem dX6_isRefusedByHouse_10 : decode cX6_isRefusedByHouse 10 = .ok (.if_icmp .le 23, 3) := by decide +kernel
theorem dX6_isRefusedByHouse_13 : decode cX6_isRefusedByHouse 13 = .ok (.aload_n 0, 1) := by decide +kernel
theorem dX6_isRefusedByHouse_14 : decode cX6_isRefusedByHouse 14 = .ok (.getfield 21, 3) := by decide +kernel
theorem dX6_isRefusedByHouse_17 : decode cX6_isRefusedByHouse 17 = .ok (.bipush 8, 2) := by decide +kernel
theorem dX6_isRefusedByHouse_19 : decode cX6_isRefusedByHouse 19 = .ok (.aload_n 0, 1) := by decide +kernel
theorem dX6_isRefusedByHouse_20 : decode cX6_isRefusedByHouse 20 = .ok (.getfield 12, 3) := by decide +kernel
theorem dX6_isRefusedByHouse_23 : decode cX6_isRefusedByHouse 23 = .ok (.getfield 74, 3) := by decide +kernel
theorem dX6_isRefusedByHouse_26 : decode cX6_isRefusedByHouse 26 = .ok (.invokevirtual 29, 3) := by decide +kernel
theorem dX6_isRefusedByHouse_29 : decode cX6_isRefusedByHouse 29 = .ok (.istore_n 3, 1) := by decide +kernel
theorem dX6_isRefusedByHouse_30 : decode cX6_isRefusedByHouse 30 = .ok (.goto 102, 3) := by decide +kernel
theorem dX6_isRefusedByHouse_33 : decode cX6_isRefusedByHouse 33 = .ok (.iload_n 2, 1) := by decide +kernel
theorem dX6_isRefusedByHouse_34 : decode cX6_isRefusedByHouse 34 = .ok (.aload_n 1, 1) := by decide +kernel
theorem dX6_isRefusedByHouse_35 : decode cX6_isRefusedByHouse 35 = .ok (.getfield 113, 3) := by decide +kernel
theorem dX6_isRefusedByHouse_38 : decode cX6_isRefusedByHouse 38 = .ok (.if_icmp .le 20, 3) := by decide +kernel
theorem dX6_isRefusedByHouse_41 : decode cX6_isRefusedByHouse 41 = .ok (.aload_n 0, 1) := by decide +kernel
theorem dX6_isRefusedByHouse_42 : decode cX6_isRefusedByHouse 42 = .ok (.getfield 21, 3) := by decide +kernel
theorem dX6_isRefusedByHouse_45 : decode cX6_isRefusedByHouse 45 = .ok (.bipush 9, 2) := by decide +kernel
theorem dX6_isRefusedByHouse_47 : decode cX6_isRefusedByHouse 47 = .ok (.aload_n 1, 1) := by decide +kernel
theorem dX6_isRefusedByHouse_48 : decode cX6_isRefusedByHouse 48 = .ok (.getfield 113, 3) := by decide +kernel
theorem dX6_isRefusedByHouse_51 : decode cX6_isRefusedByHouse 51 = .ok (.invokevirtual 29, 3) := by decide +kernel
theorem dX6_isRefusedByHouse_54 : decode cX6_isRefusedByHouse 54 = .ok (.istore_n 3, 1) := by decide +kernel
theorem dX6_isRefusedByHouse_55 : decode cX6_isRefusedByHouse 55 = .ok (.goto 77, 3) := by decide +kernel
theorem dX6_isRefusedByHouse_58 : decode cX6_isRefusedByHouse 58 = .ok (.aload_n 1, 1) := by decide +kernel
theorem dX6_isRefusedByHouse_59 : decode cX6_isRefusedByHouse 59 = .ok (.getfield 116, 3) := by decide +kernel
theorem dX6_isRefusedByHouse_62 : decode cX6_isRefusedByHouse 62 = .ok (.bipush 12, 2) := by decide +kernel
theorem dX6_isRefusedByHouse_64 : decode cX6_isRefusedByHouse 64 = .ok (.if_icmp .le 20, 3) := by decide +kernel
theorem dX6_isRefusedByHouse_67 : decode cX6_isRefusedByHouse 67 = .ok (.aload_n 0, 1) := by decide +kernel
theorem dX6_isRefusedByHouse_68 : decode cX6_isRefusedByHouse 68 = .ok (.getfield 21, 3) := by decide +kernel
theorem dX6_isRefusedByHouse_71 : decode cX6_isRefusedByHouse 71 = .ok (.bipush 10, 2) := by decide +kernel
theorem dX6_isRefusedByHouse_73 : decode cX6_isRefusedByHouse 73 = .ok (.aload_n 1, 1) := by decide +kernel
theorem dX6_isRefusedByHouse_74 : decode cX6_isRefusedByHouse 74 = .ok (.getfield 116, 3) := by decide +kernel
theorem dX6_isRefusedByHouse_77 : decode cX6_isRefusedByHouse 77 = .ok (.invokevirtual 29, 3) := by decide +kernel
theorem dX6_isRefusedByHouse_80 : decode cX6_isRefusedByHouse 80 = .ok (.istore_n 3, 1) := by decide +kernel
theorem dX6_isRefusedByHouse_81 : decode cX6_isRefusedByHouse 81 = .ok (.goto 51, 3) := by decide +kernel
theorem dX6_isRefusedByHouse_84 : decode cX6_isRefusedByHouse 84 = .ok (.aload_n 1, 1) := by decide +kernel
theorem dX6_isRefusedByHouse_85 : decode cX6_isRefusedByHouse 85 = .ok (.getfield 119, 3) := by decide +kernel
theorem dX6_isRefusedByHouse_88 : decode cX6_isRefusedByHouse 88 = .ok (.bipush 8, 2) := by decide +kernel
theorem dX6_isRefusedByHouse_90 : decode cX6_isRefusedByHouse 90 = .ok (.if_icmp .le 20, 3) := by decide +kernel
theorem dX6_isRefusedByHouse_93 : decode cX6_isRefusedByHouse 93 = .ok (.aload_n 0, 1) := by decide +kernel
theorem dX6_isRefusedByHouse_94 : decode cX6_isRefusedByHouse 94 = .ok (.getfield 21, 3) := by decide +kernel
theorem dX6_isRefusedByHouse_97 : decode cX6_isRefusedByHouse 97 = .ok (.bipush 11, 2) := by decide +kernel
theorem dX6_isRefusedByHouse_99 : decode cX6_isRefusedByHouse 99 = .ok (.aload_n 1, 1) := by decide +kernel
theorem dX6_isRefusedByHouse_100 : decode cX6_isRefusedByHouse 100 = .ok (.getfield 119, 3) := by decide +kernel
theorem dX6_isRefusedByHouse_103 : decode cX6_isRefusedByHouse 103 = .ok (.invokevirtual 29, 3) := by decide +kernel
theorem dX6_isRefusedByHouse_106 : decode cX6_isRefusedByHouse 106 = .ok (.istore_n 3, 1) := by decide +kernel
theorem dX6_isRefusedByHouse_107 : decode cX6_isRefusedByHouse 107 = .ok (.goto 25, 3) := by decide +kernel
theorem dX6_isRefusedByHouse_110 : decode cX6_isRefusedByHouse 110 = .ok (.iload_n 2, 1) := by decide +kernel
theorem dX6_isRefusedByHouse_111 : decode cX6_isRefusedByHouse 111 = .ok (.aload_n 1, 1) := by decide +kernel
theorem dX6_isRefusedByHouse_112 : decode cX6_isRefusedByHouse 112 = .ok (.invokevirtual 122, 3) := by decide +kernel
theorem dX6_isRefusedByHouse_115 : decode cX6_isRefusedByHouse 115 = .ok (.if_icmp .le 17, 3) := by decide +kernel
theorem dX6_isRefusedByHouse_118 : decode cX6_isRefusedByHouse 118 = .ok (.aload_n 0, 1) := by decide +kernel
theorem dX6_isRefusedByHouse_119 : decode cX6_isRefusedByHouse 119 = .ok (.getfield 21, 3) := by decide +kernel
theorem dX6_isRefusedByHouse_122 : decode cX6_isRefusedByHouse 122 = .ok (.bipush 12, 2) := by decide +kernel
theorem dX6_isRefusedByHouse_124 : decode cX6_isRefusedByHouse 124 = .ok (.aload_n 1, 1) := by decide +kernel
theorem dX6_isRefusedByHouse_125 : decode cX6_isRefusedByHouse 125 = .ok (.invokevirtual 122, 3) := by decide +kernel
theorem dX6_isRefusedByHouse_128 : decode cX6_isRefusedByHouse 128 = .ok (.invokevirtual 29, 3) := by decide +kernel
theorem dX6_isRefusedByHouse_131 : decode cX6_isRefusedByHouse 131 = .ok (.istore_n 3, 1) := by decide +kernel
theorem dX6_isRefusedByHouse_132 : decode cX6_isRefusedByHouse 132 = .ok (.iload_n 3, 1) := by decide +kernel
theorem dX6_isRefusedByHouse_133 : decode cX6_isRefusedByHouse 133 = .ok (.iconst (-1), 1) := by decide +kernel
theorem dX6_isRefusedByHouse_134 : decode cX6_isRefusedByHouse 134 = .ok (.if_icmp .ne 7, 3) := by decide +kernel
theorem dX6_isRefusedByHouse_137 : decode cX6_isRefusedByHouse 137 = .ok (.iconst 1, 1) := by decide +kernel
theorem dX6_isRefusedByHouse_138 : decode cX6_isRefusedByHouse 138 = .ok (.goto 4, 3) := by decide +kernel
theorem dX6_isRefusedByHouse_141 : decode cX6_isRefusedByHouse 141 = .ok (.iconst 0, 1) := by decide +kernel
theorem dX6_isRefusedByHouse_142 : decode cX6_isRefusedByHouse 142 = .ok (.ireturn, 1) := by decide +kernel
theorem dX6_mostThatAreLet_0 : decode cX6_mostThatAreLet 0 = .ok (.aload_n 0, 1) := by decide +kernel
theorem dX6_mostThatAreLet_1 : decode cX6_mostThatAreLet 1 = .ok (.getfield 12, 3) := by decide +kernel
theorem dX6_mostThatAreLet_4 : decode cX6_mostThatAreLet 4 = .ok (.invokevirtual 94, 3) := by decide +kernel
theorem dX6_mostThatAreLet_7 : decode cX6_mostThatAreLet 7 = .ok (.astore_n 2, 1) := by decide +kernel
theorem dX6_mostThatAreLet_8 : decode cX6_mostThatAreLet 8 = .ok (.aload_n 2, 1) := by decide +kernel
theorem dX6_mostThatAreLet_9 : decode cX6_mostThatAreLet 9 = .ok (.ifnull 21, 3) := by decide +kernel
theorem dX6_mostThatAreLet_12 : decode cX6_mostThatAreLet 12 = .ok (.aload_n 2, 1) := by decide +kernel
theorem dX6_mostThatAreLet_13 : decode cX6_mostThatAreLet 13 = .ok (.getfield 116, 3) := by decide +kernel
theorem dX6_mostThatAreLet_16 : decode cX6_mostThatAreLet 16 = .ok (.bipush 12, 2) := by decide +kernel
theorem dX6_mostThatAreLet_18 : decode cX6_mostThatAreLet 18 = .ok (.if_icmp .gt 12, 3) := by decide +kernel
theorem dX6_mostThatAreLet_21 : decode cX6_mostThatAreLet 21 = .ok (.aload_n 2, 1) := by decide +kernel
theorem dX6_mostThatAreLet_22 : decode cX6_mostThatAreLet 22 = .ok (.getfield 119, 3) := by decide +kernel
theorem dX6_mostThatAreLet_25 : decode cX6_mostThatAreLet 25 = .ok (.bipush 8, 2) := by decide +kernel
theorem dX6_mostThatAreLet_27 : decode cX6_mostThatAreLet 27 = .ok (.if_icmp .le 5, 3) := by decide +kernel
theorem dX6_mostThatAreLet_30 : decode cX6_mostThatAreLet 30 = .ok (.iconst 0, 1) := by decide +kernel
theorem dX6_mostThatAreLet_31 : decode cX6_mostThatAreLet 31 = .ok (.ireturn, 1) := by decide +kernel
theorem dX6_mostThatAreLet_32 : decode cX6_mostThatAreLet 32 = .ok (.aload_n 0, 1) := by decide +kernel
theorem dX6_mostThatAreLet_33 : decode cX6_mostThatAreLet 33 = .ok (.getfield 12, 3) := by decide +kernel
theorem dX6_mostThatAreLet_36 : decode cX6_mostThatAreLet 36 = .ok (.getfield 74, 3) := by decide +kernel
theorem dX6_mostThatAreLet_39 : decode cX6_mostThatAreLet 39 = .ok (.aload_n 2, 1) := by decide +kernel
theorem dX6_mostThatAreLet_40 : decode cX6_mostThatAreLet 40 = .ok (.getfield 113, 3) := by decide +kernel
theorem dX6_mostThatAreLet_43 : decode cX6_mostThatAreLet 43 = .ok (.invokestatic 125, 3) := by decide +kernel
theorem dX6_mostThatAreLet_46 : decode cX6_mostThatAreLet 46 = .ok (.istore_n 3, 1) := by decide +kernel
theorem dX6_mostThatAreLet_47 : decode cX6_mostThatAreLet 47 = .ok (.aload_n 2, 1) := by decide +kernel
theorem dX6_mostThatAreLet_48 : decode cX6_mostThatAreLet 48 = .ok (.invokevirtual 122, 3) := by decide +kernel
theorem dX6_mostThatAreLet_51 : decode cX6_mostThatAreLet 51 = .ok (.aload_n 1, 1) := by decide +kernel
theorem dX6_mostThatAreLet_52 : decode cX6_mostThatAreLet 52 = .ok (.aload_n 2, 1) := by decide +kernel
theorem dX6_mostThatAreLet_53 : decode cX6_mostThatAreLet 53 = .ok (.invokevirtual 128, 3) := by decide +kernel
theorem dX6_mostThatAreLet_56 : decode cX6_mostThatAreLet 56 = .ok (.invokestatic 125, 3) := by decide +kernel
theorem dX6_mostThatAreLet_59 : decode cX6_mostThatAreLet 59 = .ok (.istore 4, 2) := by decide +kernel
theorem dX6_mostThatAreLet_61 : decode cX6_mostThatAreLet 61 = .ok (.bipush 9, 2) := by decide +kernel
theorem dX6_mostThatAreLet_63 : decode cX6_mostThatAreLet 63 = .ok (.iload_n 3, 1) := by decide +kernel
theorem dX6_mostThatAreLet_64 : decode cX6_mostThatAreLet 64 = .ok (.iload 4, 2) := by decide +kernel
theorem dX6_mostThatAreLet_66 : decode cX6_mostThatAreLet 66 = .ok (.invokestatic 125, 3) := by decide +kernel
theorem dX6_mostThatAreLet_69 : decode cX6_mostThatAreLet 69 = .ok (.invokestatic 125, 3) := by decide +kernel
theorem dX6_mostThatAreLet_72 : decode cX6_mostThatAreLet 72 = .ok (.ireturn, 1) := by decide +kernel
theorem dX6_giveBone_0 : decode cX6_giveBone 0 = .ok (.aload_n 0, 1) := by decide +kernel
theorem dX6_giveBone_1 : decode cX6_giveBone 1 = .ok (.getfield 12, 3) := by decide +kernel
theorem dX6_giveBone_4 : decode cX6_giveBone 4 = .ok (.invokevirtual 94, 3) := by decide +kernel
theorem dX6_giveBone_7 : decode cX6_giveBone 7 = .ok (.astore_n 1, 1) := by decide +kernel
theorem dX6_giveBone_8 : decode cX6_giveBone 8 = .ok (.aload_n 1, 1) := by decide +kernel
theorem dX6_giveBone_9 : decode cX6_giveBone 9 = .ok (.ifnonnull 14, 3) := by decide +kernel
theorem dX6_giveBone_12 : decode cX6_giveBone 12 = .ok (.aload_n 0, 1) := by decide +kernel
theorem dX6_giveBone_13 : decode cX6_giveBone 13 = .ok (.getfield 21, 3) := by decide +kernel
theorem dX6_giveBone_16 : decode cX6_giveBone 16 = .ok (.bipush 7, 2) := by decide +kernel
theorem dX6_giveBone_18 : decode cX6_giveBone 18 = .ok (.iconst 0, 1) := by decide +kernel
theorem dX6_giveBone_19 : decode cX6_giveBone 19 = .ok (.invokevirtual 29, 3) := by decide +kernel
theorem dX6_giveBone_22 : decode cX6_giveBone 22 = .ok (.ireturn, 1) := by decide +kernel
theorem dX6_giveBone_23 : decode cX6_giveBone 23 = .ok (.aload_n 1, 1) := by decide +kernel
theorem dX6_giveBone_24 : decode cX6_giveBone 24 = .ok (.getfield 46, 3) := by decide +kernel
theorem dX6_giveBone_27 : decode cX6_giveBone 27 = .ok (.ifCond .eq 10, 3) := by decide +kernel
theorem dX6_giveBone_30 : decode cX6_giveBone 30 = .ok (.aload_n 1, 1) := by decide +kernel
theorem dX6_giveBone_31 : decode cX6_giveBone 31 = .ok (.getfield 131, 3) := by decide +kernel
theorem dX6_giveBone_34 : decode cX6_giveBone 34 = .ok (.ifCond .eq 22, 3) := by decide +kernel
theorem dX6_giveBone_37 : decode cX6_giveBone 37 = .ok (.aload_n 0, 1) := by decide +kernel
theorem dX6_giveBone_38 : decode cX6_giveBone 38 = .ok (.getfield 21, 3) := by decide +kernel
theorem dX6_giveBone_41 : decode cX6_giveBone 41 = .ok (.bipush 14, 2) := by decide +kernel
theorem dX6_giveBone_43 : decode cX6_giveBone 43 = .ok (.aload_n 0, 1) := by decide +kernel
theorem dX6_giveBone_44 : decode cX6_giveBone 44 = .ok (.getfield 12, 3) := by decide +kernel
theorem dX6_giveBone_47 : decode cX6_giveBone 47 = .ok (.getfield 68, 3) := by decide +kernel
theorem dX6_giveBone_50 : decode cX6_giveBone 50 = .ok (.iconst 1, 1) := by decide +kernel
theorem dX6_giveBone_51 : decode cX6_giveBone 51 = .ok (.isub, 1) := by decide +kernel
theorem dX6_giveBone_52 : decode cX6_giveBone 52 = .ok (.invokevirtual 29, 3) := by decide +kernel
theorem dX6_giveBone_55 : decode cX6_giveBone 55 = .ok (.ireturn, 1) := by decide +kernel
theorem dX6_giveBone_56 : decode cX6_giveBone 56 = .ok (.aload_n 0, 1) := by decide +kernel
theorem dX6_giveBone_57 : decode cX6_giveBone 57 = .ok (.getfield 12, 3) := by decide +kernel
theorem dX6_giveBone_60 : decode cX6_giveBone 60 = .ok (.getfield 135, 3) := by decide +kernel
theorem dX6_giveBone_63 : decode cX6_giveBone 63 = .ok (.iconst 1, 1) := by decide +kernel
theorem dX6_giveBone_64 : decode cX6_giveBone 64 = .ok (.if_icmp .ge 14, 3) := by decide +kernel
theorem dX6_giveBone_67 : decode cX6_giveBone 67 = .ok (.aload_n 0, 1) := by decide +kernel
theorem dX6_giveBone_68 : decode cX6_giveBone 68 = .ok (.getfield 21, 3) := by decide +kernel
theorem dX6_giveBone_71 : decode cX6_giveBone 71 = .ok (.bipush 15, 2) := by decide +kernel
theorem dX6_giveBone_73 : decode cX6_giveBone 73 = .ok (.iconst 0, 1) := by decide +kernel
theorem dX6_giveBone_74 : decode cX6_giveBone 74 = .ok (.invokevirtual 29, 3) := by decide +kernel
theorem dX6_giveBone_77 : decode cX6_giveBone 77 = .ok (.ireturn, 1) := by decide +kernel
theorem dX6_giveBone_78 : decode cX6_giveBone 78 = .ok (.aload_n 1, 1) := by decide +kernel
theorem dX6_giveBone_79 : decode cX6_giveBone 79 = .ok (.iconst 1, 1) := by decide +kernel
theorem dX6_giveBone_80 : decode cX6_giveBone 80 = .ok (.putfield 131, 3) := by decide +kernel
theorem dX6_giveBone_83 : decode cX6_giveBone 83 = .ok (.aload_n 0, 1) := by decide +kernel
theorem dX6_giveBone_84 : decode cX6_giveBone 84 = .ok (.getfield 12, 3) := by decide +kernel
theorem dX6_giveBone_87 : decode cX6_giveBone 87 = .ok (.dup, 1) := by decide +kernel
theorem dX6_giveBone_88 : decode cX6_giveBone 88 = .ok (.getfield 135, 3) := by decide +kernel
theorem dX6_giveBone_91 : decode cX6_giveBone 91 = .ok (.iconst 1, 1) := by decide +kernel
theorem dX6_giveBone_92 : decode cX6_giveBone 92 = .ok (.isub, 1) := by decide +kernel
theorem dX6_giveBone_93 : decode cX6_giveBone 93 = .ok (.putfield 135, 3) := by decide +kernel
theorem dX6_giveBone_96 : decode cX6_giveBone 96 = .ok (.aload_n 0, 1) := by decide +kernel
theorem dX6_giveBone_97 : decode cX6_giveBone 97 = .ok (.getfield 12, 3) := by decide +kernel
theorem dX6_giveBone_100 : decode cX6_giveBone 100 = .ok (.getfield 135, 3) := by decide +kernel
theorem dX6_giveBone_103 : decode cX6_giveBone 103 = .ok (.ireturn, 1) := by decide +kernel
theorem dX6_buyBones_0 : decode cX6_buyBones 0 = .ok (.iload_n 1, 1) := by decide +kernel
theorem dX6_buyBones_1 : decode cX6_buyBones 1 = .ok (.iconst 1, 1) := by decide +kernel
theorem dX6_buyBones_2 : decode cX6_buyBones 2 = .ok (.bipush 9, 2) := by decide +kernel
theorem dX6_buyBones_4 : decode cX6_buyBones 4 = .ok (.invokestatic 25, 3) := by decide +kernel
theorem dX6_buyBones_7 : decode cX6_buyBones 7 = .ok (.ifCond .eq 13, 3) := by decide +kernel
theorem dX6_buyBones_10 : decode cX6_buyBones 10 = .ok (.aload_n 0, 1) := by decide +kernel
theorem dX6_buyBones_11 : decode cX6_buyBones 11 = .ok (.getfield 21, 3) := by decide +kernel
theorem dX6_buyBones_14 : decode cX6_buyBones 14 = .ok (.iconst 1, 1) := by decide +kernel
theorem dX6_buyBones_15 : decode cX6_buyBones 15 = .ok (.iconst 0, 1) := by decide +kernel
theorem dX6_buyBones_16 : decode cX6_buyBones 16 = .ok (.invokevirtual 29, 3) := by decide +kernel
theorem dX6_buyBones_19 : decode cX6_buyBones 19 = .ok (.ireturn, 1) := by decide +kernel
theorem dX6_buyBones_20 : decode cX6_buyBones 20 = .ok (.iload_n 1, 1) := by decide +kernel
theorem dX6_buyBones_21 : decode cX6_buyBones 21 = .ok (.aload_n 0, 1) := by decide +kernel
theorem dX6_buyBones_22 : decode cX6_buyBones 22 = .ok (.getfield 12, 3) := by decide +kernel
theorem dX6_buyBones_25 : decode cX6_buyBones 25 = .ok (.getfield 138, 3) := by decide +kernel
theorem dX6_buyBones_28 : decode cX6_buyBones 28 = .ok (.if_icmp .le 22, 3) := by decide +kernel
theorem dX6_buyBones_31 : decode cX6_buyBones 31 = .ok (.aload_n 0, 1) := by decide +kernel
theorem dX6_buyBones_32 : decode cX6_buyBones 32 = .ok (.getfield 21, 3) := by decide +kernel
theorem dX6_buyBones_35 : decode cX6_buyBones 35 = .ok (.bipush 16, 2) := by decide +kernel
theorem dX6_buyBones_37 : decode cX6_buyBones 37 = .ok (.iload_n 1, 1) := by decide +kernel
theorem dX6_buyBones_38 : decode cX6_buyBones 38 = .ok (.aload_n 0, 1) := by decide +kernel
theorem dX6_buyBones_39 : decode cX6_buyBones 39 = .ok (.getfield 12, 3) := by decide +kernel
theorem dX6_buyBones_42 : decode cX6_buyBones 42 = .ok (.getfield 138, 3) := by decide +kernel
theorem dX6_buyBones_45 : decode cX6_buyBones 45 = .ok (.isub, 1) := by decide +kernel
theorem dX6_buyBones_46 : decode cX6_buyBones 46 = .ok (.invokevirtual 29, 3) := by decide +kernel
theorem dX6_buyBones_49 : decode cX6_buyBones 49 = .ok (.ireturn, 1) := by decide +kernel
theorem dX6_buyBones_50 : decode cX6_buyBones 50 = .ok (.aload_n 0, 1) := by decide +kernel
theorem dX6_buyBones_51 : decode cX6_buyBones 51 = .ok (.getfield 12, 3) := by decide +kernel
theorem dX6_buyBones_54 : decode cX6_buyBones 54 = .ok (.dup, 1) := by decide +kernel
theorem dX6_buyBones_55 : decode cX6_buyBones 55 = .ok (.getfield 138, 3) := by decide +kernel
theorem dX6_buyBones_58 : decode cX6_buyBones 58 = .ok (.iload_n 1, 1) := by decide +kernel
theorem dX6_buyBones_59 : decode cX6_buyBones 59 = .ok (.isub, 1) := by decide +kernel
theorem dX6_buyBones_60 : decode cX6_buyBones 60 = .ok (.putfield 138, 3) := by decide +kernel
theorem dX6_buyBones_63 : decode cX6_buyBones 63 = .ok (.aload_n 0, 1) := by decide +kernel
theorem dX6_buyBones_64 : decode cX6_buyBones 64 = .ok (.getfield 12, 3) := by decide +kernel
theorem dX6_buyBones_67 : decode cX6_buyBones 67 = .ok (.dup, 1) := by decide +kernel
theorem dX6_buyBones_68 : decode cX6_buyBones 68 = .ok (.getfield 135, 3) := by decide +kernel
theorem dX6_buyBones_71 : decode cX6_buyBones 71 = .ok (.iload_n 1, 1) := by decide +kernel
theorem dX6_buyBones_72 : decode cX6_buyBones 72 = .ok (.iadd, 1) := by decide +kernel
theorem dX6_buyBones_73 : decode cX6_buyBones 73 = .ok (.putfield 135, 3) := by decide +kernel
theorem dX6_buyBones_76 : decode cX6_buyBones 76 = .ok (.aload_n 0, 1) := by decide +kernel
theorem dX6_buyBones_77 : decode cX6_buyBones 77 = .ok (.getfield 12, 3) := by decide +kernel
theorem dX6_buyBones_80 : decode cX6_buyBones 80 = .ok (.getfield 135, 3) := by decide +kernel
theorem dX6_buyBones_83 : decode cX6_buyBones 83 = .ok (.ireturn, 1) := by decide +kernel
theorem dX6_mopStairs_0 : decode cX6_mopStairs 0 = .ok (.aload_n 0, 1) := by decide +kernel
theorem dX6_mopStairs_1 : decode cX6_mopStairs 1 = .ok (.getfield 12, 3) := by decide +kernel
theorem dX6_mopStairs_4 : decode cX6_mopStairs 4 = .ok (.iload_n 1, 1) := by decide +kernel
theorem dX6_mopStairs_5 : decode cX6_mopStairs 5 = .ok (.invokevirtual 90, 3) := by decide +kernel
theorem dX6_mopStairs_8 : decode cX6_mopStairs 8 = .ok (.astore_n 2, 1) := by decide +kernel
theorem dX6_mopStairs_9 : decode cX6_mopStairs 9 = .ok (.aload_n 2, 1) := by decide +kernel
theorem dX6_mopStairs_10 : decode cX6_mopStairs 10 = .ok (.ifnonnull 13, 3) := by decide +kernel
theorem dX6_mopStairs_13 : decode cX6_mopStairs 13 = .ok (.aload_n 0, 1) := by decide +kernel
theorem dX6_mopStairs_14 : decode cX6_mopStairs 14 = .ok (.getfield 21, 3) := by decide +kernel
theorem dX6_mopStairs_17 : decode cX6_mopStairs 17 = .ok (.iconst 3, 1) := by decide +kernel
theorem dX6_mopStairs_18 : decode cX6_mopStairs 18 = .ok (.iload_n 1, 1) := by decide +kernel
theorem dX6_mopStairs_19 : decode cX6_mopStairs 19 = .ok (.invokevirtual 29, 3) := by decide +kernel
theorem dX6_mopStairs_22 : decode cX6_mopStairs 22 = .ok (.ireturn, 1) := by decide +kernel
theorem dX6_mopStairs_23 : decode cX6_mopStairs 23 = .ok (.aload_n 0, 1) := by decide +kernel
theorem dX6_mopStairs_24 : decode cX6_mopStairs 24 = .ok (.getfield 12, 3) := by decide +kernel
theorem dX6_mopStairs_27 : decode cX6_mopStairs 27 = .ok (.invokevirtual 94, 3) := by decide +kernel
theorem dX6_mopStairs_30 : decode cX6_mopStairs 30 = .ok (.astore_n 3, 1) := by decide +kernel
theorem dX6_mopStairs_31 : decode cX6_mopStairs 31 = .ok (.aload_n 3, 1) := by decide +kernel
theorem dX6_mopStairs_32 : decode cX6_mopStairs 32 = .ok (.ifnonnull 14, 3) := by decide +kernel
theorem dX6_mopStairs_35 : decode cX6_mopStairs 35 = .ok (.aload_n 0, 1) := by decide +kernel
theorem dX6_mopStairs_36 : decode cX6_mopStairs 36 = .ok (.getfield 21, 3) := by decide +kernel
theorem dX6_mopStairs_39 : decode cX6_mopStairs 39 = .ok (.bipush 7, 2) := by decide +kernel
theorem dX6_mopStairs_41 : decode cX6_mopStairs 41 = .ok (.iconst 0, 1) := by decide +kernel
theorem dX6_mopStairs_42 : decode cX6_mopStairs 42 = .ok (.invokevirtual 29, 3) := by decide +kernel
theorem dX6_mopStairs_45 : decode cX6_mopStairs 45 = .ok (.ireturn, 1) := by decide +kernel
theorem dX6_mopStairs_46 : decode cX6_mopStairs 46 = .ok (.aload_n 3, 1) := by decide +kernel
theorem dX6_mopStairs_47 : decode cX6_mopStairs 47 = .ok (.getfield 119, 3) := by decide +kernel
theorem dX6_mopStairs_50 : decode cX6_mopStairs 50 = .ok (.istore 4, 2) := by decide +kernel
theorem dX6_mopStairs_52 : decode cX6_mopStairs 52 = .ok (.iload 4, 2) := by decide +kernel
theorem dX6_mopStairs_54 : decode cX6_mopStairs 54 = .ok (.ifCond .ne 22, 3) := by decide +kernel
theorem dX6_mopStairs_57 : decode cX6_mopStairs 57 = .ok (.aload_n 0, 1) := by decide +kernel
theorem dX6_mopStairs_58 : decode cX6_mopStairs 58 = .ok (.getfield 21, 3) := by decide +kernel
theorem dX6_mopStairs_61 : decode cX6_mopStairs 61 = .ok (.bipush 18, 2) := by decide +kernel
theorem dX6_mopStairs_63 : decode cX6_mopStairs 63 = .ok (.aload_n 0, 1) := by decide +kernel
theorem dX6_mopStairs_64 : decode cX6_mopStairs 64 = .ok (.getfield 12, 3) := by decide +kernel
theorem dX6_mopStairs_67 : decode cX6_mopStairs 67 = .ok (.getfield 68, 3) := by decide +kernel
theorem dX6_mopStairs_70 : decode cX6_mopStairs 70 = .ok (.iconst 1, 1) := by decide +kernel
theorem dX6_mopStairs_71 : decode cX6_mopStairs 71 = .ok (.isub, 1) := by decide +kernel
theorem dX6_mopStairs_72 : decode cX6_mopStairs 72 = .ok (.invokevirtual 29, 3) := by decide +kernel
theorem dX6_mopStairs_75 : decode cX6_mopStairs 75 = .ok (.ireturn, 1) := by decide +kernel
theorem dX6_mopStairs_76 : decode cX6_mopStairs 76 = .ok (.aload_n 2, 1) := by decide +kernel
theorem dX6_mopStairs_77 : decode cX6_mopStairs 77 = .ok (.getfield 102, 3) := by decide +kernel
theorem dX6_mopStairs_80 : decode cX6_mopStairs 80 = .ok (.iload 4, 2) := by decide +kernel
theorem dX6_mopStairs_82 : decode cX6_mopStairs 82 = .ok (.iconst 1, 1) := by decide +kernel
theorem dX6_mopStairs_83 : decode cX6_mopStairs 83 = .ok (.iadd, 1) := by decide +kernel
theorem dX6_mopStairs_84 : decode cX6_mopStairs 84 = .ok (.iconst 2, 1) := by decide +kernel
theorem dX6_mopStairs_85 : decode cX6_mopStairs 85 = .ok (.idiv, 1) := by decide +kernel
theorem dX6_mopStairs_86 : decode cX6_mopStairs 86 = .ok (.iadd, 1) := by decide +kernel
theorem dX6_mopStairs_87 : decode cX6_mopStairs 87 = .ok (.istore 5, 2) := by decide +kernel
theorem dX6_mopStairs_89 : decode cX6_mopStairs 89 = .ok (.iload 5, 2) := by decide +kernel
theorem dX6_mopStairs_91 : decode cX6_mopStairs 91 = .ok (.bipush 30, 2) := by decide +kernel
theorem dX6_mopStairs_93 : decode cX6_mopStairs 93 = .ok (.if_icmp .le 15, 3) := by decide +kernel
theorem dX6_mopStairs_96 : decode cX6_mopStairs 96 = .ok (.aload_n 0, 1) := by decide +kernel
theorem dX6_mopStairs_97 : decode cX6_mopStairs 97 = .ok (.getfield 21, 3) := by decide +kernel
theorem dX6_mopStairs_100 : decode cX6_mopStairs 100 = .ok (.bipush 13, 2) := by decide +kernel
theorem dX6_mopStairs_102 : decode cX6_mopStairs 102 = .ok (.iload 5, 2) := by decide +kernel
theorem dX6_mopStairs_104 : decode cX6_mopStairs 104 = .ok (.invokevirtual 29, 3) := by decide +kernel
theorem dX6_mopStairs_107 : decode cX6_mopStairs 107 = .ok (.ireturn, 1) := by decide +kernel
theorem dX6_mopStairs_108 : decode cX6_mopStairs 108 = .ok (.aload_n 2, 1) := by decide +kernel
theorem dX6_mopStairs_109 : decode cX6_mopStairs 109 = .ok (.iload 5, 2) := by decide +kernel
theorem dX6_mopStairs_111 : decode cX6_mopStairs 111 = .ok (.putfield 102, 3) := by decide +kernel
theorem dX6_mopStairs_114 : decode cX6_mopStairs 114 = .ok (.aload_n 3, 1) := by decide +kernel
theorem dX6_mopStairs_115 : decode cX6_mopStairs 115 = .ok (.iconst 0, 1) := by decide +kernel
theorem dX6_mopStairs_116 : decode cX6_mopStairs 116 = .ok (.putfield 119, 3) := by decide +kernel
theorem dX6_mopStairs_119 : decode cX6_mopStairs 119 = .ok (.iload 4, 2) := by decide +kernel
theorem dX6_mopStairs_121 : decode cX6_mopStairs 121 = .ok (.ireturn, 1) := by decide +kernel
theorem dX6_takePay_0 : decode cX6_takePay 0 = .ok (.aload_n 0, 1) := by decide +kernel
theorem dX6_takePay_1 : decode cX6_takePay 1 = .ok (.getfield 12, 3) := by decide +kernel
theorem dX6_takePay_4 : decode cX6_takePay 4 = .ok (.iload_n 1, 1) := by decide +kernel
theorem dX6_takePay_5 : decode cX6_takePay 5 = .ok (.invokevirtual 49, 3) := by decide +kernel
theorem dX6_takePay_8 : decode cX6_takePay 8 = .ok (.astore_n 3, 1) := by decide +kernel
theorem dX6_takePay_9 : decode cX6_takePay 9 = .ok (.aload_n 3, 1) := by decide +kernel
theorem dX6_takePay_10 : decode cX6_takePay 10 = .ok (.ifnonnull 13, 3) := by decide +kernel
theorem dX6_takePay_13 : decode cX6_takePay 13 = .ok (.aload_n 0, 1) := by decide +kernel
theorem dX6_takePay_14 : decode cX6_takePay 14 = .ok (.getfield 21, 3) := by decide +kernel
theorem dX6_takePay_17 : decode cX6_takePay 17 = .ok (.iconst 3, 1) := by decide +kernel
theorem dX6_takePay_18 : decode cX6_takePay 18 = .ok (.iload_n 1, 1) := by decide +kernel
theorem dX6_takePay_19 : decode cX6_takePay 19 = .ok (.invokevirtual 29, 3) := by decide +kernel
theorem dX6_takePay_22 : decode cX6_takePay 22 = .ok (.ireturn, 1) := by decide +kernel
theorem dX6_takePay_23 : decode cX6_takePay 23 = .ok (.iload_n 2, 1) := by decide +kernel
theorem dX6_takePay_24 : decode cX6_takePay 24 = .ok (.iconst 1, 1) := by decide +kernel
theorem dX6_takePay_25 : decode cX6_takePay 25 = .ok (.bipush 99, 2) := by decide +kernel
theorem dX6_takePay_27 : decode cX6_takePay 27 = .ok (.invokestatic 25, 3) := by decide +kernel
theorem dX6_takePay_30 : decode cX6_takePay 30 = .ok (.ifCond .eq 13, 3) := by decide +kernel
theorem dX6_takePay_33 : decode cX6_takePay 33 = .ok (.aload_n 0, 1) := by decide +kernel
theorem dX6_takePay_34 : decode cX6_takePay 34 = .ok (.getfield 21, 3) := by decide +kernel
theorem dX6_takePay_37 : decode cX6_takePay 37 = .ok (.iconst 1, 1) := by decide +kernel
theorem dX6_takePay_38 : decode cX6_takePay 38 = .ok (.iconst 0, 1) := by decide +kernel
theorem dX6_takePay_39 : decode cX6_takePay 39 = .ok (.invokevirtual 29, 3) := by decide +kernel
theorem dX6_takePay_42 : decode cX6_takePay 42 = .ok (.ireturn, 1) := by decide +kernel
theorem dX6_takePay_43 : decode cX6_takePay 43 = .ok (.aload_n 3, 1) := by decide +kernel
theorem dX6_takePay_44 : decode cX6_takePay 44 = .ok (.getfield 116, 3) := by decide +kernel
theorem dX6_takePay_47 : decode cX6_takePay 47 = .ok (.iload_n 2, 1) := by decide +kernel
theorem dX6_takePay_48 : decode cX6_takePay 48 = .ok (.if_icmp .ge 17, 3) := by decide +kernel
theorem dX6_takePay_51 : decode cX6_takePay 51 = .ok (.aload_n 0, 1) := by decide +kernel
theorem dX6_takePay_52 : decode cX6_takePay 52 = .ok (.getfield 21, 3) := by decide +kernel
theorem dX6_takePay_55 : decode cX6_takePay 55 = .ok (.bipush 17, 2) := by decide +kernel
theorem dX6_takePay_57 : decode cX6_takePay 57 = .ok (.aload_n 3, 1) := by decide +kernel
theorem dX6_takePay_58 : decode cX6_takePay 58 = .ok (.getfield 116, 3) := by decide +kernel
theorem dX6_takePay_61 : decode cX6_takePay 61 = .ok (.invokevirtual 29, 3) := by decide +kernel
theorem dX6_takePay_64 : decode cX6_takePay 64 = .ok (.ireturn, 1) := by decide +kernel
theorem dX6_takePay_65 : decode cX6_takePay 65 = .ok (.aload_n 3, 1) := by decide +kernel
theorem dX6_takePay_66 : decode cX6_takePay 66 = .ok (.dup, 1) := by decide +kernel
theorem dX6_takePay_67 : decode cX6_takePay 67 = .ok (.getfield 116, 3) := by decide +kernel
theorem dX6_takePay_70 : decode cX6_takePay 70 = .ok (.iload_n 2, 1) := by decide +kernel
theorem dX6_takePay_71 : decode cX6_takePay 71 = .ok (.isub, 1) := by decide +kernel
theorem dX6_takePay_72 : decode cX6_takePay 72 = .ok (.putfield 116, 3) := by decide +kernel
theorem dX6_takePay_75 : decode cX6_takePay 75 = .ok (.aload_n 0, 1) := by decide +kernel
theorem dX6_takePay_76 : decode cX6_takePay 76 = .ok (.getfield 12, 3) := by decide +kernel
theorem dX6_takePay_79 : decode cX6_takePay 79 = .ok (.dup, 1) := by decide +kernel
theorem dX6_takePay_80 : decode cX6_takePay 80 = .ok (.getfield 138, 3) := by decide +kernel
theorem dX6_takePay_83 : decode cX6_takePay 83 = .ok (.iload_n 2, 1) := by decide +kernel
theorem dX6_takePay_84 : decode cX6_takePay 84 = .ok (.iadd, 1) := by decide +kernel
theorem dX6_takePay_85 : decode cX6_takePay 85 = .ok (.putfield 138, 3) := by decide +kernel
theorem dX6_takePay_88 : decode cX6_takePay 88 = .ok (.aload_n 0, 1) := by decide +kernel
theorem dX6_takePay_89 : decode cX6_takePay 89 = .ok (.getfield 12, 3) := by decide +kernel
theorem dX6_takePay_92 : decode cX6_takePay 92 = .ok (.dup, 1) := by decide +kernel
theorem dX6_takePay_93 : decode cX6_takePay 93 = .ok (.getfield 141, 3) := by decide +kernel
theorem dX6_takePay_96 : decode cX6_takePay 96 = .ok (.iload_n 2, 1) := by decide +kernel
theorem dX6_takePay_97 : decode cX6_takePay 97 = .ok (.iadd, 1) := by decide +kernel
theorem dX6_takePay_98 : decode cX6_takePay 98 = .ok (.putfield 141, 3) := by decide +kernel
theorem dX6_takePay_101 : decode cX6_takePay 101 = .ok (.aload_n 3, 1) := by decide +kernel
theorem dX6_takePay_102 : decode cX6_takePay 102 = .ok (.getfield 116, 3) := by decide +kernel
theorem dX6_takePay_105 : decode cX6_takePay 105 = .ok (.ireturn, 1) := by decide +kernel
theorem dX6_shoeHorse_0 : decode cX6_shoeHorse 0 = .ok (.iload_n 1, 1) := by decide +kernel
theorem dX6_shoeHorse_1 : decode cX6_shoeHorse 1 = .ok (.iconst 0, 1) := by decide +kernel
theorem dX6_shoeHorse_2 : decode cX6_shoeHorse 2 = .ok (.iconst 3, 1) := by decide +kernel
theorem dX6_shoeHorse_3 : decode cX6_shoeHorse 3 = .ok (.invokestatic 25, 3) := by decide +kernel
theorem dX6_shoeHorse_6 : decode cX6_shoeHorse 6 = .ok (.ifCond .eq 13, 3) := by decide +kernel
theorem dX6_shoeHorse_9 : decode cX6_shoeHorse 9 = .ok (.aload_n 0, 1) := by decide +kernel
theorem dX6_shoeHorse_10 : decode cX6_shoeHorse 10 = .ok (.getfield 21, 3) := by decide +kernel
theorem dX6_shoeHorse_13 : decode cX6_shoeHorse 13 = .ok (.iconst 3, 1) := by decide +kernel
theorem dX6_shoeHorse_14 : decode cX6_shoeHorse 14 = .ok (.iload_n 1, 1) := by decide +kernel
theorem dX6_shoeHorse_15 : decode cX6_shoeHorse 15 = .ok (.invokevirtual 29, 3) := by decide +kernel
theorem dX6_shoeHorse_18 : decode cX6_shoeHorse 18 = .ok (.ireturn, 1) := by decide +kernel
theorem dX6_shoeHorse_19 : decode cX6_shoeHorse 19 = .ok (.aload_n 0, 1) := by decide +kernel
theorem dX6_shoeHorse_20 : decode cX6_shoeHorse 20 = .ok (.getfield 12, 3) := by decide +kernel
theorem dX6_shoeHorse_23 : decode cX6_shoeHorse 23 = .ok (.getfield 68, 3) := by decide +kernel
theorem dX6_shoeHorse_26 : decode cX6_shoeHorse 26 = .ok (.ifCond .eq 20, 3) := by decide +kernel
theorem dX6_shoeHorse_29 : decode cX6_shoeHorse 29 = .ok (.aload_n 0, 1) := by decide +kernel
theorem dX6_shoeHorse_30 : decode cX6_shoeHorse 30 = .ok (.getfield 21, 3) := by decide +kernel
theorem dX6_shoeHorse_33 : decode cX6_shoeHorse 33 = .ok (.bipush 6, 2) := by decide +kernel
theorem dX6_shoeHorse_35 : decode cX6_shoeHorse 35 = .ok (.aload_n 0, 1) := by decide +kernel
theorem dX6_shoeHorse_36 : decode cX6_shoeHorse 36 = .ok (.getfield 12, 3) := by decide +kernel
theorem dX6_shoeHorse_39 : decode cX6_shoeHorse 39 = .ok (.getfield 68, 3) := by decide +kernel
theorem dX6_shoeHorse_42 : decode cX6_shoeHorse 42 = .ok (.invokevirtual 29, 3) := by decide +kernel
theorem dX6_shoeHorse_45 : decode cX6_shoeHorse 45 = .ok (.ireturn, 1) := by decide +kernel
theorem dX6_shoeHorse_46 : decode cX6_shoeHorse 46 = .ok (.aload_n 0, 1) := by decide +kernel
theorem dX6_shoeHorse_47 : decode cX6_shoeHorse 47 = .ok (.getfield 12, 3) := by decide +kernel
theorem dX6_shoeHorse_50 : decode cX6_shoeHorse 50 = .ok (.getfield 144, 3) := by decide +kernel
theorem dX6_shoeHorse_53 : decode cX6_shoeHorse 53 = .ok (.iload_n 1, 1) := by decide +kernel
theorem dX6_shoeHorse_54 : decode cX6_shoeHorse 54 = .ok (.iaload, 1) := by decide +kernel
theorem dX6_shoeHorse_55 : decode cX6_shoeHorse 55 = .ok (.istore_n 2, 1) := by decide +kernel
theorem dX6_shoeHorse_56 : decode cX6_shoeHorse 56 = .ok (.iload_n 2, 1) := by decide +kernel
theorem dX6_shoeHorse_57 : decode cX6_shoeHorse 57 = .ok (.ifCond .ne 14, 3) := by decide +kernel
theorem dX6_shoeHorse_60 : decode cX6_shoeHorse 60 = .ok (.aload_n 0, 1) := by decide +kernel
theorem dX6_shoeHorse_61 : decode cX6_shoeHorse 61 = .ok (.getfield 21, 3) := by decide +kernel
theorem dX6_shoeHorse_64 : decode cX6_shoeHorse 64 = .ok (.bipush 19, 2) := by decide +kernel
theorem dX6_shoeHorse_66 : decode cX6_shoeHorse 66 = .ok (.iload_n 1, 1) := by decide +kernel
theorem dX6_shoeHorse_67 : decode cX6_shoeHorse 67 = .ok (.invokevirtual 29, 3) := by decide +kernel
theorem dX6_shoeHorse_70 : decode cX6_shoeHorse 70 = .ok (.ireturn, 1) := by decide +kernel
theorem dX6_shoeHorse_71 : decode cX6_shoeHorse 71 = .ok (.aload_n 0, 1) := by decide +kernel
theorem dX6_shoeHorse_72 : decode cX6_shoeHorse 72 = .ok (.getfield 12, 3) := by decide +kernel
theorem dX6_shoeHorse_75 : decode cX6_shoeHorse 75 = .ok (.getfield 138, 3) := by decide +kernel
theorem dX6_shoeHorse_78 : decode cX6_shoeHorse 78 = .ok (.iconst 4, 1) := by decide +kernel
theorem dX6_shoeHorse_79 : decode cX6_shoeHorse 79 = .ok (.if_icmp .ge 22, 3) := by decide +kernel
theorem dX6_shoeHorse_82 : decode cX6_shoeHorse 82 = .ok (.aload_n 0, 1) := by decide +kernel
theorem dX6_shoeHorse_83 : decode cX6_shoeHorse 83 = .ok (.getfield 21, 3) := by decide +kernel
theorem dX6_shoeHorse_86 : decode cX6_shoeHorse 86 = .ok (.bipush 16, 2) := by decide +kernel
theorem dX6_shoeHorse_88 : decode cX6_shoeHorse 88 = .ok (.iconst 4, 1) := by decide +kernel
theorem dX6_shoeHorse_89 : decode cX6_shoeHorse 89 = .ok (.aload_n 0, 1) := by decide +kernel
theorem dX6_shoeHorse_90 : decode cX6_shoeHorse 90 = .ok (.getfield 12, 3) := by decide +kernel
theorem dX6_shoeHorse_93 : decode cX6_shoeHorse 93 = .ok (.getfield 138, 3) := by decide +kernel
theorem dX6_shoeHorse_96 : decode cX6_shoeHorse 96 = .ok (.isub, 1) := by decide +kernel
theorem dX6_shoeHorse_97 : decode cX6_shoeHorse 97 = .ok (.invokevirtual 29, 3) := by decide +kernel
theorem dX6_shoeHorse_100 : decode cX6_shoeHorse 100 = .ok (.ireturn, 1) := by decide +kernel
theorem dX6_shoeHorse_101 : decode cX6_shoeHorse 101 = .ok (.aload_n 0, 1) := by decide +kernel
theorem dX6_shoeHorse_102 : decode cX6_shoeHorse 102 = .ok (.getfield 12, 3) := by decide +kernel
theorem dX6_shoeHorse_105 : decode cX6_shoeHorse 105 = .ok (.dup, 1) := by decide +kernel
theorem dX6_shoeHorse_106 : decode cX6_shoeHorse 106 = .ok (.getfield 138, 3) := by decide +kernel
theorem dX6_shoeHorse_109 : decode cX6_shoeHorse 109 = .ok (.iconst 4, 1) := by decide +kernel
theorem dX6_shoeHorse_110 : decode cX6_shoeHorse 110 = .ok (.isub, 1) := by decide +kernel
theorem dX6_shoeHorse_111 : decode cX6_shoeHorse 111 = .ok (.putfield 138, 3) := by decide +kernel
theorem dX6_shoeHorse_114 : decode cX6_shoeHorse 114 = .ok (.aload_n 0, 1) := by decide +kernel
theorem dX6_shoeHorse_115 : decode cX6_shoeHorse 115 = .ok (.getfield 12, 3) := by decide +kernel
theorem dX6_shoeHorse_118 : decode cX6_shoeHorse 118 = .ok (.getfield 144, 3) := by decide +kernel
theorem dX6_shoeHorse_121 : decode cX6_shoeHorse 121 = .ok (.iload_n 1, 1) := by decide +kernel
theorem dX6_shoeHorse_122 : decode cX6_shoeHorse 122 = .ok (.iconst 0, 1) := by decide +kernel
theorem dX6_shoeHorse_123 : decode cX6_shoeHorse 123 = .ok (.iastore, 1) := by decide +kernel
theorem dX6_shoeHorse_124 : decode cX6_shoeHorse 124 = .ok (.iload_n 2, 1) := by decide +kernel
theorem dX6_shoeHorse_125 : decode cX6_shoeHorse 125 = .ok (.ireturn, 1) := by decide +kernel
theorem dX6_passDays_0 : decode cX6_passDays 0 = .ok (.iload_n 1, 1) := by decide +kernel
theorem dX6_passDays_1 : decode cX6_passDays 1 = .ok (.iconst 1, 1) := by decide +kernel
theorem dX6_passDays_2 : decode cX6_passDays 2 = .ok (.bipush 30, 2) := by decide +kernel
theorem dX6_passDays_4 : decode cX6_passDays 4 = .ok (.invokestatic 25, 3) := by decide +kernel
theorem dX6_passDays_7 : decode cX6_passDays 7 = .ok (.ifCond .eq 13, 3) := by decide +kernel
theorem dX6_passDays_10 : decode cX6_passDays 10 = .ok (.aload_n 0, 1) := by decide +kernel
theorem dX6_passDays_11 : decode cX6_passDays 11 = .ok (.getfield 21, 3) := by decide +kernel
theorem dX6_passDays_14 : decode cX6_passDays 14 = .ok (.iconst 1, 1) := by decide +kernel
theorem dX6_passDays_15 : decode cX6_passDays 15 = .ok (.iconst 0, 1) := by decide +kernel
theorem dX6_passDays_16 : decode cX6_passDays 16 = .ok (.invokevirtual 29, 3) := by decide +kernel
theorem dX6_passDays_19 : decode cX6_passDays 19 = .ok (.ireturn, 1) := by decide +kernel
theorem dX6_passDays_20 : decode cX6_passDays 20 = .ok (.iconst 0, 1) := by decide +kernel
theorem dX6_passDays_21 : decode cX6_passDays 21 = .ok (.istore_n 2, 1) := by decide +kernel
theorem dX6_passDays_22 : decode cX6_passDays 22 = .ok (.iload_n 2, 1) := by decide +kernel
theorem dX6_passDays_23 : decode cX6_passDays 23 = .ok (.iload_n 1, 1) := by decide +kernel
theorem dX6_passDays_24 : decode cX6_passDays 24 = .ok (.if_icmp .ge 16, 3) := by decide +kernel
theorem dX6_passDays_27 : decode cX6_passDays 27 = .ok (.aload_n 0, 1) := by decide +kernel
theorem dX6_passDays_28 : decode cX6_passDays 28 = .ok (.getfield 12, 3) := by decide +kernel
theorem dX6_passDays_31 : decode cX6_passDays 31 = .ok (.invokevirtual 148, 3) := by decide +kernel
theorem dX6_passDays_34 : decode cX6_passDays 34 = .ok (.iinc 2 1, 3) := by decide +kernel
theorem dX6_passDays_37 : decode cX6_passDays 37 = .ok (.goto (-15), 3) := by decide +kernel
theorem dX6_passDays_40 : decode cX6_passDays 40 = .ok (.aload_n 0, 1) := by decide +kernel
theorem dX6_passDays_41 : decode cX6_passDays 41 = .ok (.getfield 12, 3) := by decide +kernel
theorem dX6_passDays_44 : decode cX6_passDays 44 = .ok (.iconst 3, 1) := by decide +kernel
theorem dX6_passDays_45 : decode cX6_passDays 45 = .ok (.invokevirtual 151, 3) := by decide +kernel
theorem dX6_passDays_48 : decode cX6_passDays 48 = .ok (.ireturn, 1) := by decide +kernel
theorem dX6_carryOut_0 : decode cX6_carryOut 0 = .ok (.iload_n 1, 1) := by decide +kernel
theorem dX6_carryOut_1 : decode cX6_carryOut 1 = .ok (.tableswitch 86 0 6 #[43, 49, 55, 62, 67, 73, 80], 43) := by decide +kernel
theorem dX6_carryOut_44 : decode cX6_carryOut 44 = .ok (.aload_n 0, 1) := by decide +kernel
theorem dX6_carryOut_45 : decode cX6_carryOut 45 = .ok (.iload_n 2, 1) := by decide +kernel
theorem dX6_carryOut_46 : decode cX6_carryOut 46 = .ok (.invokevirtual 155, 3) := by decide +kernel
theorem dX6_carryOut_49 : decode cX6_carryOut 49 = .ok (.ireturn, 1) := by decide +kernel
theorem dX6_carryOut_50 : decode cX6_carryOut 50 = .ok (.aload_n 0, 1) := by decide +kernel
theorem dX6_carryOut_51 : decode cX6_carryOut 51 = .ok (.iload_n 2, 1) := by decide +kernel
theorem dX6_carryOut_52 : decode cX6_carryOut 52 = .ok (.invokevirtual 158, 3) := by decide +kernel
theorem dX6_carryOut_55 : decode cX6_carryOut 55 = .ok (.ireturn, 1) := by decide +kernel
theorem dX6_carryOut_56 : decode cX6_carryOut 56 = .ok (.aload_n 0, 1) := by decide +kernel
theorem dX6_carryOut_57 : decode cX6_carryOut 57 = .ok (.iload_n 2, 1) := by decide +kernel
theorem dX6_carryOut_58 : decode cX6_carryOut 58 = .ok (.iload_n 3, 1) := by decide +kernel
theorem dX6_carryOut_59 : decode cX6_carryOut 59 = .ok (.invokevirtual 161, 3) := by decide +kernel
theorem dX6_carryOut_62 : decode cX6_carryOut 62 = .ok (.ireturn, 1) := by decide +kernel
theorem dX6_carryOut_63 : decode cX6_carryOut 63 = .ok (.aload_n 0, 1) := by decide +kernel
theorem dX6_carryOut_64 : decode cX6_carryOut 64 = .ok (.invokevirtual 164, 3) := by decide +kernel
theorem dX6_carryOut_67 : decode cX6_carryOut 67 = .ok (.ireturn, 1) := by decide +kernel
theorem dX6_carryOut_68 : decode cX6_carryOut 68 = .ok (.aload_n 0, 1) := by decide +kernel
theorem dX6_carryOut_69 : decode cX6_carryOut 69 = .ok (.iload_n 2, 1) := by decide +kernel
theorem dX6_carryOut_70 : decode cX6_carryOut 70 = .ok (.invokevirtual 167, 3) := by decide +kernel
theorem dX6_carryOut_73 : decode cX6_carryOut 73 = .ok (.ireturn, 1) := by decide +kernel
theorem dX6_carryOut_74 : decode cX6_carryOut 74 = .ok (.aload_n 0, 1) := by decide +kernel
theorem dX6_carryOut_75 : decode cX6_carryOut 75 = .ok (.iload_n 2, 1) := by decide +kernel
theorem dX6_carryOut_76 : decode cX6_carryOut 76 = .ok (.iload_n 3, 1) := by decide +kernel
theorem dX6_carryOut_77 : decode cX6_carryOut 77 = .ok (.invokevirtual 170, 3) := by decide +kernel
theorem dX6_carryOut_80 : decode cX6_carryOut 80 = .ok (.ireturn, 1) := by decide +kernel
theorem dX6_carryOut_81 : decode cX6_carryOut 81 = .ok (.aload_n 0, 1) := by decide +kernel
theorem dX6_carryOut_82 : decode cX6_carryOut 82 = .ok (.iload_n 2, 1) := by decide +kernel
theorem dX6_carryOut_83 : decode cX6_carryOut 83 = .ok (.invokevirtual 173, 3) := by decide +kernel
theorem dX6_carryOut_86 : decode cX6_carryOut 86 = .ok (.ireturn, 1) := by decide +kernel
theorem dX6_carryOut_87 : decode cX6_carryOut 87 = .ok (.aload_n 0, 1) := by decide +kernel
theorem dX6_carryOut_88 : decode cX6_carryOut 88 = .ok (.iload_n 2, 1) := by decide +kernel
theorem dX6_carryOut_89 : decode cX6_carryOut 89 = .ok (.invokevirtual 176, 3) := by decide +kernel
theorem dX6_carryOut_92 : decode cX6_carryOut 92 = .ok (.ireturn, 1) := by decide +kernel
theorem dX7_init_0 : decode cX7_init 0 = .ok (.aload_n 0, 1) := by decide +kernel
theorem dX7_init_1 : decode cX7_init 1 = .ok (.invokespecial 1, 3) := by decide +kernel
theorem dX7_init_4 : decode cX7_init 4 = .ok (.aload_n 0, 1) := by decide +kernel
theorem dX7_init_5 : decode cX7_init 5 = .ok (.new 7, 3) := by decide +kernel
theorem dX7_init_8 : decode cX7_init 8 = .ok (.dup, 1) := by decide +kernel
theorem dX7_init_9 : decode cX7_init 9 = .ok (.invokespecial 9, 3) := by decide +kernel
theorem dX7_init_12 : decode cX7_init 12 = .ok (.putfield 10, 3) := by decide +kernel
theorem dX7_init_15 : decode cX7_init 15 = .ok (.aload_n 0, 1) := by decide +kernel
theorem dX7_init_16 : decode cX7_init 16 = .ok (.aload_n 0, 1) := by decide +kernel
theorem dX7_init_17 : decode cX7_init 17 = .ok (.getfield 10, 3) := by decide +kernel
theorem dX7_init_20 : decode cX7_init 20 = .ok (.getfield 16, 3) := by decide +kernel
theorem dX7_init_23 : decode cX7_init 23 = .ok (.putfield 20, 3) := by decide +kernel
theorem dX7_init_26 : decode cX7_init 26 = .ok (.aload_n 0, 1) := by decide +kernel
theorem dX7_init_27 : decode cX7_init 27 = .ok (.aload_n 0, 1) := by decide +kernel
theorem dX7_init_28 : decode cX7_init 28 = .ok (.getfield 10, 3) := by decide +kernel
theorem dX7_init_31 : decode cX7_init 31 = .ok (.getfield 21, 3) := by decide +kernel
theorem dX7_init_34 : decode cX7_init 34 = .ok (.putfield 25, 3) := by decide +kernel
theorem dX7_init_37 : decode cX7_init 37 = .ok (.aload_n 0, 1) := by decide +kernel
theorem dX7_init_38 : decode cX7_init 38 = .ok (.new 28, 3) := by decide +kernel
theorem dX7_init_41 : decode cX7_init 41 = .ok (.dup, 1) := by decide +kernel
theorem dX7_init_42 : decode cX7_init 42 = .ok (.invokespecial 30, 3) := by decide +kernel
theorem dX7_init_45 : decode cX7_init 45 = .ok (.putfield 31, 3) := by decide +kernel
theorem dX7_init_48 : decode cX7_init 48 = .ok (.aload_n 0, 1) := by decide +kernel
theorem dX7_init_49 : decode cX7_init 49 = .ok (.new 35, 3) := by decide +kernel
theorem dX7_init_52 : decode cX7_init 52 = .ok (.dup, 1) := by decide +kernel
theorem dX7_init_53 : decode cX7_init 53 = .ok (.invokespecial 37, 3) := by decide +kernel
theorem dX7_init_56 : decode cX7_init 56 = .ok (.putfield 38, 3) := by decide +kernel
theorem dX7_init_59 : decode cX7_init 59 = .ok (.aload_n 0, 1) := by decide +kernel
theorem dX7_init_60 : decode cX7_init 60 = .ok (.new 41, 3) := by decide +kernel
theorem dX7_init_63 : decode cX7_init 63 = .ok (.dup, 1) := by decide +kernel
theorem dX7_init_64 : decode cX7_init 64 = .ok (.invokespecial 43, 3) := by decide +kernel
theorem dX7_init_67 : decode cX7_init 67 = .ok (.putfield 44, 3) := by decide +kernel
theorem dX7_init_70 : decode cX7_init 70 = .ok (.aload_n 0, 1) := by decide +kernel
theorem dX7_init_71 : decode cX7_init 71 = .ok (.iconst (-1), 1) := by decide +kernel
theorem dX7_init_72 : decode cX7_init 72 = .ok (.putfield 48, 3) := by decide +kernel
theorem dX7_init_75 : decode cX7_init 75 = .ok (.aload_n 0, 1) := by decide +kernel
theorem dX7_init_76 : decode cX7_init 76 = .ok (.new 52, 3) := by decide +kernel
theorem dX7_init_79 : decode cX7_init 79 = .ok (.dup, 1) := by decide +kernel
theorem dX7_init_80 : decode cX7_init 80 = .ok (.invokespecial 54, 3) := by decide +kernel
theorem dX7_init_83 : decode cX7_init 83 = .ok (.putfield 55, 3) := by decide +kernel
theorem dX7_init_86 : decode cX7_init 86 = .ok (.return_, 1) := by decide +kernel
theorem dX7_house_0 : decode cX7_house 0 = .ok (.aload_n 0, 1) := by decide +kernel
theorem dX7_house_1 : decode cX7_house 1 = .ok (.getfield 31, 3) := by decide +kernel
theorem dX7_house_4 : decode cX7_house 4 = .ok (.aload_n 0, 1) := by decide +kernel
theorem dX7_house_5 : decode cX7_house 5 = .ok (.getfield 20, 3) := by decide +kernel
theorem dX7_house_8 : decode cX7_house 8 = .ok (.invokevirtual 59, 3) := by decide +kernel
theorem dX7_house_11 : decode cX7_house 11 = .ok (.aload_n 0, 1) := by decide +kernel
theorem dX7_house_12 : decode cX7_house 12 = .ok (.aload_n 0, 1) := by decide +kernel
theorem dX7_house_13 : decode cX7_house 13 = .ok (.getfield 10, 3) := by decide +kernel
theorem dX7_house_16 : decode cX7_house 16 = .ok (.iload_n 1, 1) := by decide +kernel
theorem dX7_house_17 : decode cX7_house 17 = .ok (.iload_n 2, 1) := by decide +kernel
theorem dX7_house_18 : decode cX7_house 18 = .ok (.invokevirtual 63, 3) := by decide +kernel
theorem dX7_house_21 : decode cX7_house 21 = .ok (.invokevirtual 67, 3) := by decide +kernel
theorem dX7_house_24 : decode cX7_house 24 = .ok (.ireturn, 1) := by decide +kernel
theorem dX7_order_0 : decode cX7_order 0 = .ok (.aload_n 0, 1) := by decide +kernel
theorem dX7_order_1 : decode cX7_order 1 = .ok (.getfield 31, 3) := by decide +kernel
theorem dX7_order_4 : decode cX7_order 4 = .ok (.aload_n 0, 1) := by decide +kernel
theorem dX7_order_5 : decode cX7_order 5 = .ok (.getfield 20, 3) := by decide +kernel
theorem dX7_order_8 : decode cX7_order 8 = .ok (.invokevirtual 59, 3) := by decide +kernel
theorem dX7_order_11 : decode cX7_order 11 = .ok (.aload_n 0, 1) := by decide +kernel
theorem dX7_order_12 : decode cX7_order 12 = .ok (.aload_n 0, 1) := by decide +kernel
theorem dX7_order_13 : decode cX7_order 13 = .ok (.getfield 10, 3) := by decide +kernel
theorem dX7_order_16 : decode cX7_order 16 = .ok (.iload_n 1, 1) := by decide +kernel
theorem dX7_order_17 : decode cX7_order 17 = .ok (.iload_n 2, 1) := by decide +kernel
theorem dX7_order_18 : decode cX7_order 18 = .ok (.invokevirtual 71, 3) := by decide +kernel
theorem dX7_order_21 : decode cX7_order 21 = .ok (.invokevirtual 67, 3) := by decide +kernel
theorem dX7_order_24 : decode cX7_order 24 = .ok (.ireturn, 1) := by decide +kernel
theorem dX7_carrier_0 : decode cX7_carrier 0 = .ok (.aload_n 0, 1) := by decide +kernel
theorem dX7_carrier_1 : decode cX7_carrier 1 = .ok (.getfield 31, 3) := by decide +kernel
theorem dX7_carrier_4 : decode cX7_carrier 4 = .ok (.aload_n 0, 1) := by decide +kernel
theorem dX7_carrier_5 : decode cX7_carrier 5 = .ok (.getfield 20, 3) := by decide +kernel
theorem dX7_carrier_8 : decode cX7_carrier 8 = .ok (.invokevirtual 59, 3) := by decide +kernel
theorem dX7_carrier_11 : decode cX7_carrier 11 = .ok (.aload_n 0, 1) := by decide +kernel
theorem dX7_carrier_12 : decode cX7_carrier 12 = .ok (.aload_n 0, 1) := by decide +kernel
theorem dX7_carrier_13 : decode cX7_carrier 13 = .ok (.getfield 10, 3) := by decide +kernel
theorem dX7_carrier_16 : decode cX7_carrier 16 = .ok (.iload_n 1, 1) := by decide +kernel
theorem dX7_carrier_17 : decode cX7_carrier 17 = .ok (.invokevirtual 74, 3) := by decide +kernel
theorem dX7_carrier_20 : decode cX7_carrier 20 = .ok (.invokevirtual 67, 3) := by decide +kernel
theorem dX7_carrier_23 : decode cX7_carrier 23 = .ok (.ireturn, 1) := by decide +kernel
theorem dX7_load_0 : decode cX7_load 0 = .ok (.aload_n 0, 1) := by decide +kernel
theorem dX7_load_1 : decode cX7_load 1 = .ok (.getfield 31, 3) := by decide +kernel
theorem dX7_load_4 : decode cX7_load 4 = .ok (.aload_n 0, 1) := by decide +kernel
theorem dX7_load_5 : decode cX7_load 5 = .ok (.getfield 20, 3) := by decide +kernel
theorem dX7_load_8 : decode cX7_load 8 = .ok (.invokevirtual 59, 3) := by decide +kernel
theorem dX7_load_11 : decode cX7_load 11 = .ok (.aload_n 0, 1) := by decide +kernel
theorem dX7_load_12 : decode cX7_load 12 = .ok (.aload_n 0, 1) := by decide +kernel
theorem dX7_load_13 : decode cX7_load 13 = .ok (.getfield 10, 3) := by decide +kernel
theorem dX7_load_16 : decode cX7_load 16 = .ok (.iload_n 1, 1) := by decide +kernel
theorem dX7_load_17 : decode cX7_load 17 = .ok (.invokevirtual 77, 3) := by decide +kernel
theorem dX7_load_20 : decode cX7_load 20 = .ok (.invokevirtual 67, 3) := by decide +kernel
theorem dX7_load_23 : decode cX7_load 23 = .ok (.ireturn, 1) := by decide +kernel
theorem dX7_drive_0 : decode cX7_drive 0 = .ok (.aload_n 0, 1) := by decide +kernel
theorem dX7_drive_1 : decode cX7_drive 1 = .ok (.getfield 31, 3) := by decide +kernel
theorem dX7_drive_4 : decode cX7_drive 4 = .ok (.aload_n 0, 1) := by decide +kernel
theorem dX7_drive_5 : decode cX7_drive 5 = .ok (.getfield 20, 3) := by decide +kernel
theorem dX7_drive_8 : decode cX7_drive 8 = .ok (.invokevirtual 59, 3) := by decide +kernel
theorem dX7_drive_11 : decode cX7_drive 11 = .ok (.aload_n 0, 1) := by decide +kernel
theorem dX7_drive_12 : decode cX7_drive 12 = .ok (.aload_n 0, 1) := by decide +kernel
theorem dX7_drive_13 : decode cX7_drive 13 = .ok (.getfield 10, 3) := by decide +kernel
theorem dX7_drive_16 : decode cX7_drive 16 = .ok (.iload_n 1, 1) := by decide +kernel
theorem dX7_drive_17 : decode cX7_drive 17 = .ok (.invokevirtual 80, 3) := by decide +kernel
theorem dX7_drive_20 : decode cX7_drive 20 = .ok (.invokevirtual 67, 3) := by decide +kernel
theorem dX7_drive_23 : decode cX7_drive 23 = .ok (.ireturn, 1) := by decide +kernel
theorem dX7_carry_0 : decode cX7_carry 0 = .ok (.aload_n 0, 1) := by decide +kernel
theorem dX7_carry_1 : decode cX7_carry 1 = .ok (.getfield 31, 3) := by decide +kernel
theorem dX7_carry_4 : decode cX7_carry 4 = .ok (.aload_n 0, 1) := by decide +kernel
theorem dX7_carry_5 : decode cX7_carry 5 = .ok (.getfield 20, 3) := by decide +kernel
theorem dX7_carry_8 : decode cX7_carry 8 = .ok (.invokevirtual 59, 3) := by decide +kernel
theorem dX7_carry_11 : decode cX7_carry 11 = .ok (.aload_n 0, 1) := by decide +kernel
theorem dX7_carry_12 : decode cX7_carry 12 = .ok (.aload_n 0, 1) := by decide +kernel
theorem dX7_carry_13 : decode cX7_carry 13 = .ok (.getfield 10, 3) := by decide +kernel
theorem dX7_carry_16 : decode cX7_carry 16 = .ok (.iload_n 1, 1) := by decide +kernel
theorem dX7_carry_17 : decode cX7_carry 17 = .ok (.iload_n 2, 1) := by decide +kernel
theorem dX7_carry_18 : decode cX7_carry 18 = .ok (.invokevirtual 83, 3) := by decide +kernel
theorem dX7_carry_21 : decode cX7_carry 21 = .ok (.invokevirtual 67, 3) := by decide +kernel
theorem dX7_carry_24 : decode cX7_carry 24 = .ok (.ireturn, 1) := by decide +kernel
theorem dX7_bone_0 : decode cX7_bone 0 = .ok (.aload_n 0, 1) := by decide +kernel
theorem dX7_bone_1 : decode cX7_bone 1 = .ok (.getfield 31, 3) := by decide +kernel
theorem dX7_bone_4 : decode cX7_bone 4 = .ok (.aload_n 0, 1) := by decide +kernel
theorem dX7_bone_5 : decode cX7_bone 5 = .ok (.getfield 20, 3) := by decide +kernel
theorem dX7_bone_8 : decode cX7_bone 8 = .ok (.invokevirtual 59, 3) := by decide +kernel
theorem dX7_bone_11 : decode cX7_bone 11 = .ok (.aload_n 0, 1) := by decide +kernel
theorem dX7_bone_12 : decode cX7_bone 12 = .ok (.aload_n 0, 1) := by decide +kernel
theorem dX7_bone_13 : decode cX7_bone 13 = .ok (.getfield 10, 3) := by decide +kernel
theorem dX7_bone_16 : decode cX7_bone 16 = .ok (.invokevirtual 86, 3) := by decide +kernel
theorem dX7_bone_19 : decode cX7_bone 19 = .ok (.invokevirtual 67, 3) := by decide +kernel
theorem dX7_bone_22 : decode cX7_bone 22 = .ok (.ireturn, 1) := by decide +kernel
theorem dX7_bones_0 : decode cX7_bones 0 = .ok (.aload_n 0, 1) := by decide +kernel
theorem dX7_bones_1 : decode cX7_bones 1 = .ok (.getfield 31, 3) := by decide +kernel
theorem dX7_bones_4 : decode cX7_bones 4 = .ok (.aload_n 0, 1) := by decide +kernel
theorem dX7_bones_5 : decode cX7_bones 5 = .ok (.getfield 20, 3) := by decide +kernel
theorem dX7_bones_8 : decode cX7_bones 8 = .ok (.invokevirtual 59, 3) := by decide +kernel
theorem dX7_bones_11 : decode cX7_bones 11 = .ok (.aload_n 0, 1) := by decide +kernel
theorem dX7_bones_12 : decode cX7_bones 12 = .ok (.aload_n 0, 1) := by decide +kernel
theorem dX7_bones_13 : decode cX7_bones 13 = .ok (.getfield 10, 3) := by decide +kernel
theorem dX7_bones_16 : decode cX7_bones 16 = .ok (.iload_n 1, 1) := by decide +kernel
theorem dX7_bones_17 : decode cX7_bones 17 = .ok (.invokevirtual 90, 3) := by decide +kernel
theorem dX7_bones_20 : decode cX7_bones 20 = .ok (.invokevirtual 67, 3) := by decide +kernel
theorem dX7_bones_23 : decode cX7_bones 23 = .ok (.ireturn, 1) := by decide +kernel
theorem dX7_mop_0 : decode cX7_mop 0 = .ok (.aload_n 0, 1) := by decide +kernel
theorem dX7_mop_1 : decode cX7_mop 1 = .ok (.getfield 31, 3) := by decide +kernel
theorem dX7_mop_4 : decode cX7_mop 4 = .ok (.aload_n 0, 1) := by decide +kernel
theorem dX7_mop_5 : decode cX7_mop 5 = .ok (.getfield 20, 3) := by decide +kernel
theorem dX7_mop_8 : decode cX7_mop 8 = .ok (.invokevirtual 59, 3) := by decide +kernel
theorem dX7_mop_11 : decode cX7_mop 11 = .ok (.aload_n 0, 1) := by decide +kernel
theorem dX7_mop_12 : decode cX7_mop 12 = .ok (.aload_n 0, 1) := by decide +kernel
theorem dX7_mop_13 : decode cX7_mop 13 = .ok (.getfield 10, 3) := by decide +kernel
theorem dX7_mop_16 : decode cX7_mop 16 = .ok (.iload_n 1, 1) := by decide +kernel
theorem dX7_mop_17 : decode cX7_mop 17 = .ok (.invokevirtual 93, 3) := by decide +kernel
theorem dX7_mop_20 : decode cX7_mop 20 = .ok (.invokevirtual 67, 3) := by decide +kernel
theorem dX7_mop_23 : decode cX7_mop 23 = .ok (.ireturn, 1) := by decide +kernel
theorem dX7_pay_0 : decode cX7_pay 0 = .ok (.aload_n 0, 1) := by decide +kernel
theorem dX7_pay_1 : decode cX7_pay 1 = .ok (.getfield 31, 3) := by decide +kernel
theorem dX7_pay_4 : decode cX7_pay 4 = .ok (.aload_n 0, 1) := by decide +kernel
theorem dX7_pay_5 : decode cX7_pay 5 = .ok (.getfield 20, 3) := by decide +kernel
theorem dX7_pay_8 : decode cX7_pay 8 = .ok (.invokevirtual 59, 3) := by decide +kernel
theorem dX7_pay_11 : decode cX7_pay 11 = .ok (.aload_n 0, 1) := by decide +kernel
theorem dX7_pay_12 : decode cX7_pay 12 = .ok (.aload_n 0, 1) := by decide +kernel
theorem dX7_pay_13 : decode cX7_pay 13 = .ok (.getfield 10, 3) := by decide +kernel
theorem dX7_pay_16 : decode cX7_pay 16 = .ok (.iload_n 1, 1) := by decide +kernel
theorem dX7_pay_17 : decode cX7_pay 17 = .ok (.iload_n 2, 1) := by decide +kernel
theorem dX7_pay_18 : decode cX7_pay 18 = .ok (.invokevirtual 96, 3) := by decide +kernel
theorem dX7_pay_21 : decode cX7_pay 21 = .ok (.invokevirtual 67, 3) := by decide +kernel
theorem dX7_pay_24 : decode cX7_pay 24 = .ok (.ireturn, 1) := by decide +kernel
theorem dX7_shoe_0 : decode cX7_shoe 0 = .ok (.aload_n 0, 1) := by decide +kernel
theorem dX7_shoe_1 : decode cX7_shoe 1 = .ok (.getfield 31, 3) := by decide +kernel
theorem dX7_shoe_4 : decode cX7_shoe 4 = .ok (.aload_n 0, 1) := by decide +kernel
theorem dX7_shoe_5 : decode cX7_shoe 5 = .ok (.getfield 20, 3) := by decide +kernel
theorem dX7_shoe_8 : decode cX7_shoe 8 = .ok (.invokevirtual 59, 3) := by decide +kernel
theorem dX7_shoe_11 : decode cX7_shoe 11 = .ok (.aload_n 0, 1) := by decide +kernel
theorem dX7_shoe_12 : decode cX7_shoe 12 = .ok (.aload_n 0, 1) := by decide +kernel
theorem dX7_shoe_13 : decode cX7_shoe 13 = .ok (.getfield 10, 3) := by decide +kernel
theorem dX7_shoe_16 : decode cX7_shoe 16 = .ok (.iload_n 1, 1) := by decide +kernel
theorem dX7_shoe_17 : decode cX7_shoe 17 = .ok (.invokevirtual 99, 3) := by decide +kernel
theorem dX7_shoe_20 : decode cX7_shoe 20 = .ok (.invokevirtual 67, 3) := by decide +kernel
theorem dX7_shoe_23 : decode cX7_shoe 23 = .ok (.ireturn, 1) := by decide +kernel
theorem dX7_days_0 : decode cX7_days 0 = .ok (.aload_n 0, 1) := by decide +kernel
theorem dX7_days_1 : decode cX7_days 1 = .ok (.getfield 31, 3) := by decide +kernel
theorem dX7_days_4 : decode cX7_days 4 = .ok (.aload_n 0, 1) := by decide +kernel
theorem dX7_days_5 : decode cX7_days 5 = .ok (.getfield 20, 3) := by decide +kernel
theorem dX7_days_8 : decode cX7_days 8 = .ok (.invokevirtual 59, 3) := by decide +kernel
theorem dX7_days_11 : decode cX7_days 11 = .ok (.aload_n 0, 1) := by decide +kernel
theorem dX7_days_12 : decode cX7_days 12 = .ok (.aload_n 0, 1) := by decide +kernel
theorem dX7_days_13 : decode cX7_days 13 = .ok (.getfield 10, 3) := by decide +kernel
theorem dX7_days_16 : decode cX7_days 16 = .ok (.iload_n 1, 1) := by decide +kernel
theorem dX7_days_17 : decode cX7_days 17 = .ok (.invokevirtual 102, 3) := by decide +kernel
theorem dX7_days_20 : decode cX7_days 20 = .ok (.invokevirtual 67, 3) := by decide +kernel
theorem dX7_days_23 : decode cX7_days 23 = .ok (.ireturn, 1) := by decide +kernel
theorem dX7_houseOf_0 : decode cX7_houseOf 0 = .ok (.aload_n 0, 1) := by decide +kernel
theorem dX7_houseOf_1 : decode cX7_houseOf 1 = .ok (.getfield 20, 3) := by decide +kernel
theorem dX7_houseOf_4 : decode cX7_houseOf 4 = .ok (.iload_n 1, 1) := by decide +kernel
theorem dX7_houseOf_5 : decode cX7_houseOf 5 = .ok (.invokevirtual 105, 3) := by decide +kernel
theorem dX7_houseOf_8 : decode cX7_houseOf 8 = .ok (.astore_n 3, 1) := by decide +kernel
theorem dX7_houseOf_9 : decode cX7_houseOf 9 = .ok (.aload_n 3, 1) := by decide +kernel
theorem dX7_houseOf_10 : decode cX7_houseOf 10 = .ok (.ifnonnull 13, 3) := by decide +kernel
theorem dX7_houseOf_13 : decode cX7_houseOf 13 = .ok (.new 109, 3) := by decide +kernel
theorem dX7_houseOf_16 : decode cX7_houseOf 16 = .ok (.dup, 1) := by decide +kernel
theorem dX7_houseOf_17 : decode cX7_houseOf 17 = .ok (.ldc 111, 2) := by decide +kernel
theorem dX7_houseOf_19 : decode cX7_houseOf 19 = .ok (.invokespecial 113, 3) := by decide +kernel
theorem dX7_houseOf_22 : decode cX7_houseOf 22 = .ok (.athrow, 1) := by decide +kernel
theorem dX7_houseOf_23 : decode cX7_houseOf 23 = .ok (.iload_n 2, 1) := by decide +kernel
theorem dX7_houseOf_24 : decode cX7_houseOf 24 = .ok (.iconst 0, 1) := by decide +kernel
theorem dX7_houseOf_25 : decode cX7_houseOf 25 = .ok (.bipush 7, 2) := by decide +kernel
theorem dX7_houseOf_27 : decode cX7_houseOf 27 = .ok (.invokestatic 116, 3) := by decide +kernel
theorem dX7_houseOf_30 : decode cX7_houseOf 30 = .ok (.ifCond .eq 13, 3) := by decide +kernel
theorem dX7_houseOf_33 : decode cX7_houseOf 33 = .ok (.new 120, 3) := by decide +kernel
theorem dX7_houseOf_36 : decode cX7_houseOf 36 = .ok (.dup, 1) := by decide +kernel
theorem dX7_houseOf_37 : decode cX7_houseOf 37 = .ok (.ldc 122, 2) := by decide +kernel
theorem dX7_houseOf_39 : decode cX7_houseOf 39 = .ok (.invokespecial 124, 3) := by decide +kernel
theorem dX7_houseOf_42 : decode cX7_houseOf 42 = .ok (.athrow, 1) := by decide +kernel
theorem dX7_houseOf_43 : decode cX7_houseOf 43 = .ok (.aload_n 3, 1) := by decide +kernel
theorem dX7_houseOf_44 : decode cX7_houseOf 44 = .ok (.iload_n 2, 1) := by decide +kernel
theorem dX7_houseOf_45 : decode cX7_houseOf 45 = .ok (.invokevirtual 125, 3) := by decide +kernel
theorem dX7_houseOf_48 : decode cX7_houseOf 48 = .ok (.ireturn, 1) := by decide +kernel
theorem dX7_carrierOf_0 : decode cX7_carrierOf 0 = .ok (.aload_n 0, 1) := by decide +kernel
theorem dX7_carrierOf_1 : decode cX7_carrierOf 1 = .ok (.getfield 20, 3) := by decide +kernel
theorem dX7_carrierOf_4 : decode cX7_carrierOf 4 = .ok (.iload_n 1, 1) := by decide +kernel
theorem dX7_carrierOf_5 : decode cX7_carrierOf 5 = .ok (.invokevirtual 130, 3) := by decide +kernel
theorem dX7_carrierOf_8 : decode cX7_carrierOf 8 = .ok (.astore_n 3, 1) := by decide +kernel
theorem dX7_carrierOf_9 : decode cX7_carrierOf 9 = .ok (.aload_n 3, 1) := by decide +kernel
theorem dX7_carrierOf_10 : decode cX7_carrierOf 10 = .ok (.ifnonnull 13, 3) := by decide +kernel
theorem dX7_carrierOf_13 : decode cX7_carrierOf 13 = .ok (.new 109, 3) := by decide +kernel
theorem dX7_carrierOf_16 : decode cX7_carrierOf 16 = .ok (.dup, 1) := by decide +kernel
theorem dX7_carrierOf_17 : decode cX7_carrierOf 17 = .ok (.ldc 134, 2) := by decide +kernel
theorem dX7_carrierOf_19 : decode cX7_carrierOf 19 = .ok (.invokespecial 113, 3) := by decide +kernel
theorem dX7_carrierOf_22 : decode cX7_carrierOf 22 = .ok (.athrow, 1) := by decide +kernel
theorem dX7_carrierOf_23 : decode cX7_carrierOf 23 = .ok (.iload_n 2, 1) := by decide +kernel
theorem dX7_carrierOf_24 : decode cX7_carrierOf 24 = .ok (.iconst 0, 1) := by decide +kernel
theorem dX7_carrierOf_25 : decode cX7_carrierOf 25 = .ok (.iconst 3, 1) := by decide +kernel
theorem dX7_carrierOf_26 : decode cX7_carrierOf 26 = .ok (.invokestatic 116, 3) := by decide +kernel
theorem dX7_carrierOf_29 : decode cX7_carrierOf 29 = .ok (.ifCond .eq 13, 3) := by decide +kernel
theorem dX7_carrierOf_32 : decode cX7_carrierOf 32 = .ok (.new 120, 3) := by decide +kernel
theorem dX7_carrierOf_35 : decode cX7_carrierOf 35 = .ok (.dup, 1) := by decide +kernel
theorem dX7_carrierOf_36 : decode cX7_carrierOf 36 = .ok (.ldc 136, 2) := by decide +kernel
theorem dX7_carrierOf_38 : decode cX7_carrierOf 38 = .ok (.invokespecial 124, 3) := by decide +kernel
theorem dX7_carrierOf_41 : decode cX7_carrierOf 41 = .ok (.athrow, 1) := by decide +kernel
theorem dX7_carrierOf_42 : decode cX7_carrierOf 42 = .ok (.aload_n 3, 1) := by decide +kernel
theorem dX7_carrierOf_43 : decode cX7_carrierOf 43 = .ok (.iload_n 2, 1) := by decide +kernel
theorem dX7_carrierOf_44 : decode cX7_carrierOf 44 = .ok (.invokevirtual 138, 3) := by decide +kernel
theorem dX7_carrierOf_47 : decode cX7_carrierOf 47 = .ok (.ireturn, 1) := by decide +kernel
theorem dX7_shoeOf_0 : decode cX7_shoeOf 0 = .ok (.iload_n 1, 1) := by decide +kernel
theorem dX7_shoeOf_1 : decode cX7_shoeOf 1 = .ok (.iconst 0, 1) := by decide +kernel
theorem dX7_shoeOf_2 : decode cX7_shoeOf 2 = .ok (.iconst 3, 1) := by decide +kernel
theorem dX7_shoeOf_3 : decode cX7_shoeOf 3 = .ok (.invokestatic 116, 3) := by decide +kernel
theorem dX7_shoeOf_6 : decode cX7_shoeOf 6 = .ok (.ifCond .eq 13, 3) := by decide +kernel
theorem dX7_shoeOf_9 : decode cX7_shoeOf 9 = .ok (.new 109, 3) := by decide +kernel
theorem dX7_shoeOf_12 : decode cX7_shoeOf 12 = .ok (.dup, 1) := by decide +kernel
theorem dX7_shoeOf_13 : decode cX7_shoeOf 13 = .ok (.ldc 141, 2) := by decide +kernel
theorem dX7_shoeOf_15 : decode cX7_shoeOf 15 = .ok (.invokespecial 113, 3) := by decide +kernel
theorem dX7_shoeOf_18 : decode cX7_shoeOf 18 = .ok (.athrow, 1) := by decide +kernel
theorem dX7_shoeOf_19 : decode cX7_shoeOf 19 = .ok (.aload_n 0, 1) := by decide +kernel
theorem dX7_shoeOf_20 : decode cX7_shoeOf 20 = .ok (.getfield 20, 3) := by decide +kernel
theorem dX7_shoeOf_23 : decode cX7_shoeOf 23 = .ok (.getfield 143, 3) := by decide +kernel
theorem dX7_shoeOf_26 : decode cX7_shoeOf 26 = .ok (.iload_n 1, 1) := by decide +kernel
theorem dX7_shoeOf_27 : decode cX7_shoeOf 27 = .ok (.iaload, 1) := by decide +kernel
theorem dX7_shoeOf_28 : decode cX7_shoeOf 28 = .ok (.ireturn, 1) := by decide +kernel
theorem dX7_tires_0 : decode cX7_tires 0 = .ok (.aload_n 0, 1) := by decide +kernel
theorem dX7_tires_1 : decode cX7_tires 1 = .ok (.getfield 20, 3) := by decide +kernel
theorem dX7_tires_4 : decode cX7_tires 4 = .ok (.iload_n 1, 1) := by decide +kernel
theorem dX7_tires_5 : decode cX7_tires 5 = .ok (.invokevirtual 130, 3) := by decide +kernel
theorem dX7_tires_8 : decode cX7_tires 8 = .ok (.astore_n 3, 1) := by decide +kernel
theorem dX7_tires_9 : decode cX7_tires 9 = .ok (.aload_n 0, 1) := by decide +kernel
theorem dX7_tires_10 : decode cX7_tires 10 = .ok (.getfield 20, 3) := by decide +kernel
theorem dX7_tires_13 : decode cX7_tires 13 = .ok (.iload_n 2, 1) := by decide +kernel
theorem dX7_tires_14 : decode cX7_tires 14 = .ok (.invokevirtual 105, 3) := by decide +kernel
theorem dX7_tires_17 : decode cX7_tires 17 = .ok (.astore 4, 2) := by decide +kernel
theorem dX7_tires_19 : decode cX7_tires 19 = .ok (.aload_n 3, 1) := by decide +kernel
theorem dX7_tires_20 : decode cX7_tires 20 = .ok (.ifnull 8, 3) := by decide +kernel
theorem dX7_tires_23 : decode cX7_tires 23 = .ok (.aload 4, 2) := by decide +kernel
theorem dX7_tires_25 : decode cX7_tires 25 = .ok (.ifnonnull 13, 3) := by decide +kernel
theorem dX7_tires_28 : decode cX7_tires 28 = .ok (.new 109, 3) := by decide +kernel
theorem dX7_tires_31 : decode cX7_tires 31 = .ok (.dup, 1) := by decide +kernel
theorem dX7_tires_32 : decode cX7_tires 32 = .ok (.ldc 147, 2) := by decide +kernel
theorem dX7_tires_34 : decode cX7_tires 34 = .ok (.invokespecial 113, 3) := by decide +kernel
theorem dX7_tires_37 : decode cX7_tires 37 = .ok (.athrow, 1) := by decide +kernel
theorem dX7_tires_38 : decode cX7_tires 38 = .ok (.aload_n 3, 1) := by decide +kernel
theorem dX7_tires_39 : decode cX7_tires 39 = .ok (.aload 4, 2) := by decide +kernel
theorem dX7_tires_41 : decode cX7_tires 41 = .ok (.invokevirtual 149, 3) := by decide +kernel
theorem dX7_tires_44 : decode cX7_tires 44 = .ok (.ireturn, 1) := by decide +kernel
theorem dX7_canCarry_0 : decode cX7_canCarry 0 = .ok (.aload_n 0, 1) := by decide +kernel
theorem dX7_canCarry_1 : decode cX7_canCarry 1 = .ok (.getfield 20, 3) := by decide +kernel
theorem dX7_canCarry_4 : decode cX7_canCarry 4 = .ok (.iload_n 1, 1) := by decide +kernel
theorem dX7_canCarry_5 : decode cX7_canCarry 5 = .ok (.invokevirtual 130, 3) := by decide +kernel
theorem dX7_canCarry_8 : decode cX7_canCarry 8 = .ok (.astore_n 3, 1) := by decide +kernel
theorem dX7_canCarry_9 : decode cX7_canCarry 9 = .ok (.aload_n 0, 1) := by decide +kernel
theorem dX7_canCarry_10 : decode cX7_canCarry 10 = .ok (.getfield 20, 3) := by decide +kernel
theorem dX7_canCarry_13 : decode cX7_canCarry 13 = .ok (.iload_n 2, 1) := by decide +kernel
theorem dX7_canCarry_14 : decode cX7_canCarry 14 = .ok (.invokevirtual 105, 3) := by decide +kernel
theorem dX7_canCarry_17 : decode cX7_canCarry 17 = .ok (.astore 4, 2) := by decide +kernel
theorem dX7_canCarry_19 : decode cX7_canCarry 19 = .ok (.aload_n 3, 1) := by decide +kernel
theorem dX7_canCarry_20 : decode cX7_canCarry 20 = .ok (.ifnull 8, 3) := by decide +kernel
theorem dX7_canCarry_23 : decode cX7_canCarry 23 = .ok (.aload 4, 2) := by decide +kernel
theorem dX7_canCarry_25 : decode cX7_canCarry 25 = .ok (.ifnonnull 13, 3) := by decide +kernel
theorem dX7_canCarry_28 : decode cX7_canCarry 28 = .ok (.new 109, 3) := by decide +kernel
theorem dX7_canCarry_31 : decode cX7_canCarry 31 = .ok (.dup, 1) := by decide +kernel
theorem dX7_canCarry_32 : decode cX7_canCarry 32 = .ok (.ldc 147, 2) := by decide +kernel
theorem dX7_canCarry_34 : decode cX7_canCarry 34 = .ok (.invokespecial 113, 3) := by decide +kernel
theorem dX7_canCarry_37 : decode cX7_canCarry 37 = .ok (.athrow, 1) := by decide +kernel
theorem dX7_canCarry_38 : decode cX7_canCarry 38 = .ok (.aload_n 3, 1) := by decide +kernel
theorem dX7_canCarry_39 : decode cX7_canCarry 39 = .ok (.aload 4, 2) := by decide +kernel
theorem dX7_canCarry_41 : decode cX7_canCarry 41 = .ok (.invokevirtual 153, 3) := by decide +kernel
theorem dX7_canCarry_44 : decode cX7_canCarry 44 = .ok (.ireturn, 1) := by decide +kernel
theorem dX7_mayCarry_0 : decode cX7_mayCarry 0 = .ok (.aload_n 0, 1) := by decide +kernel
theorem dX7_mayCarry_1 : decode cX7_mayCarry 1 = .ok (.getfield 20, 3) := by decide +kernel
theorem dX7_mayCarry_4 : decode cX7_mayCarry 4 = .ok (.iload_n 1, 1) := by decide +kernel
theorem dX7_mayCarry_5 : decode cX7_mayCarry 5 = .ok (.invokevirtual 130, 3) := by decide +kernel
theorem dX7_mayCarry_8 : decode cX7_mayCarry 8 = .ok (.astore_n 2, 1) := by decide +kernel
theorem dX7_mayCarry_9 : decode cX7_mayCarry 9 = .ok (.aload_n 2, 1) := by decide +kernel
theorem dX7_mayCarry_10 : decode cX7_mayCarry 10 = .ok (.ifnonnull 13, 3) := by decide +kernel
theorem dX7_mayCarry_13 : decode cX7_mayCarry 13 = .ok (.new 109, 3) := by decide +kernel
theorem dX7_mayCarry_16 : decode cX7_mayCarry 16 = .ok (.dup, 1) := by decide +kernel
theorem dX7_mayCarry_17 : decode cX7_mayCarry 17 = .ok (.ldc 134, 2) := by decide +kernel
theorem dX7_mayCarry_19 : decode cX7_mayCarry 19 = .ok (.invokespecial 113, 3) := by decide +kernel
theorem dX7_mayCarry_22 : decode cX7_mayCarry 22 = .ok (.athrow, 1) := by decide +kernel
theorem dX7_mayCarry_23 : decode cX7_mayCarry 23 = .ok (.aload_n 0, 1) := by decide +kernel
theorem dX7_mayCarry_24 : decode cX7_mayCarry 24 = .ok (.getfield 10, 3) := by decide +kernel
theorem dX7_mayCarry_27 : decode cX7_mayCarry 27 = .ok (.aload_n 2, 1) := by decide +kernel
theorem dX7_mayCarry_28 : decode cX7_mayCarry 28 = .ok (.invokevirtual 156, 3) := by decide +kernel
theorem dX7_mayCarry_31 : decode cX7_mayCarry 31 = .ok (.ireturn, 1) := by decide +kernel
theorem dX7_bestCarrier_0 : decode cX7_bestCarrier 0 = .ok (.aload_n 0, 1) := by decide +kernel
theorem dX7_bestCarrier_1 : decode cX7_bestCarrier 1 = .ok (.getfield 20, 3) := by decide +kernel
theorem dX7_bestCarrier_4 : decode cX7_bestCarrier 4 = .ok (.iload_n 1, 1) := by decide +kernel
theorem dX7_bestCarrier_5 : decode cX7_bestCarrier 5 = .ok (.invokevirtual 105, 3) := by decide +kernel
theorem dX7_bestCarrier_8 : decode cX7_bestCarrier 8 = .ok (.astore_n 2, 1) := by decide +kernel
theorem dX7_bestCarrier_9 : decode cX7_bestCarrier 9 = .ok (.aload_n 2, 1) := by decide +kernel
theorem dX7_bestCarrier_10 : decode cX7_bestCarrier 10 = .ok (.ifnonnull 13, 3) := by decide +kernel
theorem dX7_bestCarrier_13 : decode cX7_bestCarrier 13 = .ok (.new 109, 3) := by decide +kernel
theorem dX7_bestCarrier_16 : decode cX7_bestCarrier 16 = .ok (.dup, 1) := by decide +kernel
theorem dX7_bestCarrier_17 : decode cX7_bestCarrier 17 = .ok (.ldc 111, 2) := by decide +kernel
theorem dX7_bestCarrier_19 : decode cX7_bestCarrier 19 = .ok (.invokespecial 113, 3) := by decide +kernel
theorem dX7_bestCarrier_22 : decode cX7_bestCarrier 22 = .ok (.athrow, 1) := by decide +kernel
theorem dX7_bestCarrier_23 : decode cX7_bestCarrier 23 = .ok (.aload_n 0, 1) := by decide +kernel
theorem dX7_bestCarrier_24 : decode cX7_bestCarrier 24 = .ok (.getfield 20, 3) := by decide +kernel
theorem dX7_bestCarrier_27 : decode cX7_bestCarrier 27 = .ok (.aload_n 2, 1) := by decide +kernel
theorem dX7_bestCarrier_28 : decode cX7_bestCarrier 28 = .ok (.invokevirtual 160, 3) := by decide +kernel
theorem dX7_bestCarrier_31 : decode cX7_bestCarrier 31 = .ok (.istore_n 3, 1) := by decide +kernel
theorem dX7_bestCarrier_32 : decode cX7_bestCarrier 32 = .ok (.iload_n 3, 1) := by decide +kernel
theorem dX7_bestCarrier_33 : decode cX7_bestCarrier 33 = .ok (.iconst (-1), 1) := by decide +kernel
theorem dX7_bestCarrier_34 : decode cX7_bestCarrier 34 = .ok (.if_icmp .ne 13, 3) := by decide +kernel
theorem dX7_bestCarrier_37 : decode cX7_bestCarrier 37 = .ok (.new 163, 3) := by decide +kernel
theorem dX7_bestCarrier_40 : decode cX7_bestCarrier 40 = .ok (.dup, 1) := by decide +kernel
theorem dX7_bestCarrier_41 : decode cX7_bestCarrier 41 = .ok (.ldc 165, 2) := by decide +kernel
theorem dX7_bestCarrier_43 : decode cX7_bestCarrier 43 = .ok (.invokespecial 167, 3) := by decide +kernel
theorem dX7_bestCarrier_46 : decode cX7_bestCarrier 46 = .ok (.athrow, 1) := by decide +kernel
theorem dX7_bestCarrier_47 : decode cX7_bestCarrier 47 = .ok (.iload_n 3, 1) := by decide +kernel
theorem dX7_bestCarrier_48 : decode cX7_bestCarrier 48 = .ok (.ireturn, 1) := by decide +kernel
theorem dX7_reach_0 : decode cX7_reach 0 = .ok (.aload_n 0, 1) := by decide +kernel
theorem dX7_reach_1 : decode cX7_reach 1 = .ok (.getfield 20, 3) := by decide +kernel
theorem dX7_reach_4 : decode cX7_reach 4 = .ok (.invokevirtual 168, 3) := by decide +kernel
theorem dX7_reach_7 : decode cX7_reach 7 = .ok (.iconst 3, 1) := by decide +kernel
theorem dX7_reach_8 : decode cX7_reach 8 = .ok (.if_icmp .ge 13, 3) := by decide +kernel
theorem dX7_reach_11 : decode cX7_reach 11 = .ok (.aload_n 0, 1) := by decide +kernel
theorem dX7_reach_12 : decode cX7_reach 12 = .ok (.getfield 20, 3) := by decide +kernel
theorem dX7_reach_15 : decode cX7_reach 15 = .ok (.getfield 171, 3) := by decide +kernel
theorem dX7_reach_18 : decode cX7_reach 18 = .ok (.goto 10, 3) := by decide +kernel
theorem dX7_reach_21 : decode cX7_reach 21 = .ok (.aload_n 0, 1) := by decide +kernel
theorem dX7_reach_22 : decode cX7_reach 22 = .ok (.getfield 20, 3) := by decide +kernel
theorem dX7_reach_25 : decode cX7_reach 25 = .ok (.getfield 174, 3) := by decide +kernel
theorem dX7_reach_28 : decode cX7_reach 28 = .ok (.ireturn, 1) := by decide +kernel
theorem dX7_isQuiet_0 : decode cX7_isQuiet 0 = .ok (.aload_n 0, 1) := by decide +kernel
theorem dX7_isQuiet_1 : decode cX7_isQuiet 1 = .ok (.getfield 20, 3) := by decide +kernel
theorem dX7_isQuiet_4 : decode cX7_isQuiet 4 = .ok (.iload_n 1, 1) := by decide +kernel
theorem dX7_isQuiet_5 : decode cX7_isQuiet 5 = .ok (.invokevirtual 105, 3) := by decide +kernel
theorem dX7_isQuiet_8 : decode cX7_isQuiet 8 = .ok (.astore_n 2, 1) := by decide +kernel
theorem dX7_isQuiet_9 : decode cX7_isQuiet 9 = .ok (.aload_n 2, 1) := by decide +kernel
theorem dX7_isQuiet_10 : decode cX7_isQuiet 10 = .ok (.ifnonnull 13, 3) := by decide +kernel
theorem dX7_isQuiet_13 : decode cX7_isQuiet 13 = .ok (.new 109, 3) := by decide +kernel
theorem dX7_isQuiet_16 : decode cX7_isQuiet 16 = .ok (.dup, 1) := by decide +kernel
theorem dX7_isQuiet_17 : decode cX7_isQuiet 17 = .ok (.ldc 111, 2) := by decide +kernel
theorem dX7_isQuiet_19 : decode cX7_isQuiet 19 = .ok (.invokespecial 113, 3) := by decide +kernel
theorem dX7_isQuiet_22 : decode cX7_isQuiet 22 = .ok (.athrow, 1) := by decide +kernel
theorem dX7_isQuiet_23 : decode cX7_isQuiet 23 = .ok (.aload_n 2, 1) := by decide +kernel
theorem dX7_isQuiet_24 : decode cX7_isQuiet 24 = .ok (.invokevirtual 177, 3) := by decide +kernel
theorem dX7_isQuiet_27 : decode cX7_isQuiet 27 = .ok (.ifCond .le 7, 3) := by decide +kernel
theorem dX7_isQuiet_30 : decode cX7_isQuiet 30 = .ok (.iconst 1, 1) := by decide +kernel
theorem dX7_isQuiet_31 : decode cX7_isQuiet 31 = .ok (.goto 4, 3) := by decide +kernel
theorem dX7_isQuiet_34 : decode cX7_isQuiet 34 = .ok (.iconst 0, 1) := by decide +kernel
theorem dX7_isQuiet_35 : decode cX7_isQuiet 35 = .ok (.ireturn, 1) := by decide +kernel
theorem dX7_ranked_0 : decode cX7_ranked 0 = .ok (.aload_n 0, 1) := by decide +kernel
theorem dX7_ranked_1 : decode cX7_ranked 1 = .ok (.getfield 20, 3) := by decide +kernel
theorem dX7_ranked_4 : decode cX7_ranked 4 = .ok (.iload_n 1, 1) := by decide +kernel
theorem dX7_ranked_5 : decode cX7_ranked 5 = .ok (.invokevirtual 180, 3) := by decide +kernel
theorem dX7_ranked_8 : decode cX7_ranked 8 = .ok (.istore_n 2, 1) := by decide +kernel
theorem dX7_ranked_9 : decode cX7_ranked 9 = .ok (.iload_n 2, 1) := by decide +kernel
theorem dX7_ranked_10 : decode cX7_ranked 10 = .ok (.iconst (-1), 1) := by decide +kernel
theorem dX7_ranked_11 : decode cX7_ranked 11 = .ok (.if_icmp .ne 13, 3) := by decide +kernel
theorem dX7_ranked_14 : decode cX7_ranked 14 = .ok (.new 163, 3) := by decide +kernel
theorem dX7_ranked_17 : decode cX7_ranked 17 = .ok (.dup, 1) := by decide +kernel
theorem dX7_ranked_18 : decode cX7_ranked 18 = .ok (.ldc 183, 2) := by decide +kernel
theorem dX7_ranked_20 : decode cX7_ranked 20 = .ok (.invokespecial 167, 3) := by decide +kernel
theorem dX7_ranked_23 : decode cX7_ranked 23 = .ok (.athrow, 1) := by decide +kernel
theorem dX7_ranked_24 : decode cX7_ranked 24 = .ok (.iload_n 2, 1) := by decide +kernel
theorem dX7_ranked_25 : decode cX7_ranked 25 = .ok (.ireturn, 1) := by decide +kernel
theorem dX7_carried_0 : decode cX7_carried 0 = .ok (.aload_n 0, 1) := by decide +kernel
theorem dX7_carried_1 : decode cX7_carried 1 = .ok (.getfield 20, 3) := by decide +kernel
theorem dX7_carried_4 : decode cX7_carried 4 = .ok (.invokevirtual 185, 3) := by decide +kernel
theorem dX7_carried_7 : decode cX7_carried 7 = .ok (.ireturn, 1) := by decide +kernel
theorem dX7_carriedAgain_0 : decode cX7_carriedAgain 0 = .ok (.aload_n 0, 1) := by decide +kernel
theorem dX7_carriedAgain_1 : decode cX7_carriedAgain 1 = .ok (.getfield 20, 3) := by decide +kernel
theorem dX7_carriedAgain_4 : decode cX7_carriedAgain 4 = .ok (.invokevirtual 188, 3) := by decide +kernel
theorem dX7_carriedAgain_7 : decode cX7_carriedAgain 7 = .ok (.iconst 3, 1) := by decide +kernel
theorem dX7_carriedAgain_8 : decode cX7_carriedAgain 8 = .ok (.idiv, 1) := by decide +kernel
theorem dX7_carriedAgain_9 : decode cX7_carriedAgain 9 = .ok (.ireturn, 1) := by decide +kernel
theorem dX7_append_0 : decode cX7_append 0 = .ok (.aload_n 0, 1) := by decide +kernel
theorem dX7_append_1 : decode cX7_append 1 = .ok (.getfield 44, 3) := by decide +kernel
theorem dX7_append_4 : decode cX7_append 4 = .ok (.getfield 191, 3) := by decide +kernel
theorem dX7_append_7 : decode cX7_append 7 = .ok (.bipush 60, 2) := by decide +kernel
theorem dX7_append_9 : decode cX7_append 9 = .ok (.if_icmp .lt 13, 3) := by decide +kernel
theorem dX7_append_12 : decode cX7_append 12 = .ok (.new 194, 3) := by decide +kernel
theorem dX7_append_15 : decode cX7_append 15 = .ok (.dup, 1) := by decide +kernel
theorem dX7_append_16 : decode cX7_append 16 = .ok (.ldc 196, 2) := by decide +kernel
theorem dX7_append_18 : decode cX7_append 18 = .ok (.invokespecial 198, 3) := by decide +kernel
theorem dX7_append_21 : decode cX7_append 21 = .ok (.athrow, 1) := by decide +kernel
theorem dX7_append_22 : decode cX7_append 22 = .ok (.aload_n 0, 1) := by decide +kernel
theorem dX7_append_23 : decode cX7_append 23 = .ok (.getfield 44, 3) := by decide +kernel
theorem dX7_append_26 : decode cX7_append 26 = .ok (.getfield 199, 3) := by decide +kernel
theorem dX7_append_29 : decode cX7_append 29 = .ok (.aload_n 0, 1) := by decide +kernel
theorem dX7_append_30 : decode cX7_append 30 = .ok (.getfield 44, 3) := by decide +kernel
theorem dX7_append_33 : decode cX7_append 33 = .ok (.getfield 191, 3) := by decide +kernel
theorem dX7_append_36 : decode cX7_append 36 = .ok (.iload_n 1, 1) := by decide +kernel
theorem dX7_append_37 : decode cX7_append 37 = .ok (.castore, 1) := by decide +kernel
theorem dX7_append_38 : decode cX7_append 38 = .ok (.aload_n 0, 1) := by decide +kernel
theorem dX7_append_39 : decode cX7_append 39 = .ok (.getfield 44, 3) := by decide +kernel
theorem dX7_append_42 : decode cX7_append 42 = .ok (.dup, 1) := by decide +kernel
theorem dX7_append_43 : decode cX7_append 43 = .ok (.getfield 191, 3) := by decide +kernel
theorem dX7_append_46 : decode cX7_append 46 = .ok (.iconst 1, 1) := by decide +kernel
theorem dX7_append_47 : decode cX7_append 47 = .ok (.iadd, 1) := by decide +kernel
theorem dX7_append_48 : decode cX7_append 48 = .ok (.putfield 191, 3) := by decide +kernel
theorem dX7_append_51 : decode cX7_append 51 = .ok (.aload_n 0, 1) := by decide +kernel
theorem dX7_append_52 : decode cX7_append 52 = .ok (.getfield 44, 3) := by decide +kernel
theorem dX7_append_55 : decode cX7_append 55 = .ok (.getfield 191, 3) := by decide +kernel
theorem dX7_append_58 : decode cX7_append 58 = .ok (.ireturn, 1) := by decide +kernel
theorem dX7_commands_0 : decode cX7_commands 0 = .ok (.aload_n 0, 1) := by decide +kernel
theorem dX7_commands_1 : decode cX7_commands 1 = .ok (.getfield 44, 3) := by decide +kernel
theorem dX7_commands_4 : decode cX7_commands 4 = .ok (.invokevirtual 203, 3) := by decide +kernel
theorem dX7_commands_7 : decode cX7_commands 7 = .ok (.istore_n 1, 1) := by decide +kernel
theorem dX7_commands_8 : decode cX7_commands 8 = .ok (.aload_n 0, 1) := by decide +kernel
theorem dX7_commands_9 : decode cX7_commands 9 = .ok (.iload_n 1, 1) := by decide +kernel
theorem dX7_commands_10 : decode cX7_commands 10 = .ok (.ifCond .eq 7, 3) := by decide +kernel
theorem dX7_commands_13 : decode cX7_commands 13 = .ok (.iconst (-1), 1) := by decide +kernel
theorem dX7_commands_14 : decode cX7_commands 14 = .ok (.goto 10, 3) := by decide +kernel
theorem dX7_commands_17 : decode cX7_commands 17 = .ok (.aload_n 0, 1) := by decide +kernel
theorem dX7_commands_18 : decode cX7_commands 18 = .ok (.getfield 44, 3) := by decide +kernel
theorem dX7_commands_21 : decode cX7_commands 21 = .ok (.getfield 207, 3) := by decide +kernel
theorem dX7_commands_24 : decode cX7_commands 24 = .ok (.putfield 48, 3) := by decide +kernel
theorem dX7_commands_27 : decode cX7_commands 27 = .ok (.aload_n 0, 1) := by decide +kernel
theorem dX7_commands_28 : decode cX7_commands 28 = .ok (.getfield 44, 3) := by decide +kernel
theorem dX7_commands_31 : decode cX7_commands 31 = .ok (.iconst 0, 1) := by decide +kernel
theorem dX7_commands_32 : decode cX7_commands 32 = .ok (.putfield 191, 3) := by decide +kernel
theorem dX7_commands_35 : decode cX7_commands 35 = .ok (.iload_n 1, 1) := by decide +kernel
theorem dX7_commands_36 : decode cX7_commands 36 = .ok (.ifCond .ne 13, 3) := by decide +kernel
theorem dX7_commands_39 : decode cX7_commands 39 = .ok (.new 120, 3) := by decide +kernel
theorem dX7_commands_42 : decode cX7_commands 42 = .ok (.dup, 1) := by decide +kernel
theorem dX7_commands_43 : decode cX7_commands 43 = .ok (.ldc 210, 2) := by decide +kernel
theorem dX7_commands_45 : decode cX7_commands 45 = .ok (.invokespecial 124, 3) := by decide +kernel
theorem dX7_commands_48 : decode cX7_commands 48 = .ok (.athrow, 1) := by decide +kernel
theorem dX7_commands_49 : decode cX7_commands 49 = .ok (.aload_n 0, 1) := by decide +kernel
theorem dX7_commands_50 : decode cX7_commands 50 = .ok (.getfield 31, 3) := by decide +kernel
theorem dX7_commands_53 : decode cX7_commands 53 = .ok (.aload_n 0, 1) := by decide +kernel
theorem dX7_commands_54 : decode cX7_commands 54 = .ok (.getfield 20, 3) := by decide +kernel
theorem dX7_commands_57 : decode cX7_commands 57 = .ok (.invokevirtual 59, 3) := by decide +kernel
theorem dX7_commands_60 : decode cX7_commands 60 = .ok (.aload_n 0, 1) := by decide +kernel
theorem dX7_commands_61 : decode cX7_commands 61 = .ok (.invokevirtual 212, 3) := by decide +kernel
theorem dX7_commands_64 : decode cX7_commands 64 = .ok (.ifCond .ne 24, 3) := by decide +kernel
theorem dX7_commands_67 : decode cX7_commands 67 = .ok (.aload_n 0, 1) := by decide +kernel
theorem dX7_commands_68 : decode cX7_commands 68 = .ok (.getfield 31, 3) := by decide +kernel
theorem dX7_commands_71 : decode cX7_commands 71 = .ok (.aload_n 0, 1) := by decide +kernel
theorem dX7_commands_72 : decode cX7_commands 72 = .ok (.getfield 20, 3) := by decide +kernel
theorem dX7_commands_75 : decode cX7_commands 75 = .ok (.invokevirtual 215, 3) := by decide +kernel
theorem dX7_commands_78 : decode cX7_commands 78 = .ok (.new 218, 3) := by decide +kernel
theorem dX7_commands_81 : decode cX7_commands 81 = .ok (.dup, 1) := by decide +kernel
theorem dX7_commands_82 : decode cX7_commands 82 = .ok (.ldc 220, 2) := by decide +kernel
theorem dX7_commands_84 : decode cX7_commands 84 = .ok (.invokespecial 222, 3) := by decide +kernel
theorem dX7_commands_87 : decode cX7_commands 87 = .ok (.athrow, 1) := by decide +kernel
theorem dX7_commands_88 : decode cX7_commands 88 = .ok (.aload_n 0, 1) := by decide +kernel
theorem dX7_commands_89 : decode cX7_commands 89 = .ok (.getfield 31, 3) := by decide +kernel
theorem dX7_commands_92 : decode cX7_commands 92 = .ok (.invokevirtual 223, 3) := by decide +kernel
theorem dX7_commands_95 : decode cX7_commands 95 = .ok (.aload_n 0, 1) := by decide +kernel
theorem dX7_commands_96 : decode cX7_commands 96 = .ok (.getfield 44, 3) := by decide +kernel
theorem dX7_commands_99 : decode cX7_commands 99 = .ok (.getfield 226, 3) := by decide +kernel
theorem dX7_commands_102 : decode cX7_commands 102 = .ok (.ireturn, 1) := by decide +kernel
theorem dX7_faultPosition_0 : decode cX7_faultPosition 0 = .ok (.aload_n 0, 1) := by decide +kernel
theorem dX7_faultPosition_1 : decode cX7_faultPosition 1 = .ok (.getfield 48, 3) := by decide +kernel
theorem dX7_faultPosition_4 : decode cX7_faultPosition 4 = .ok (.ireturn, 1) := by decide +kernel
theorem dX7_reason_0 : decode cX7_reason 0 = .ok (.iload_n 1, 1) := by decide +kernel
theorem dX7_reason_1 : decode cX7_reason 1 = .ok (.iconst 0, 1) := by decide +kernel
theorem dX7_reason_2 : decode cX7_reason 2 = .ok (.iconst 2, 1) := by decide +kernel
theorem dX7_reason_3 : decode cX7_reason 3 = .ok (.invokestatic 116, 3) := by decide +kernel
theorem dX7_reason_6 : decode cX7_reason 6 = .ok (.ifCond .eq 13, 3) := by decide +kernel
theorem dX7_reason_9 : decode cX7_reason 9 = .ok (.new 120, 3) := by decide +kernel
theorem dX7_reason_12 : decode cX7_reason 12 = .ok (.dup, 1) := by decide +kernel
theorem dX7_reason_13 : decode cX7_reason 13 = .ok (.ldc 229, 2) := by decide +kernel
theorem dX7_reason_15 : decode cX7_reason 15 = .ok (.invokespecial 124, 3) := by decide +kernel
theorem dX7_reason_18 : decode cX7_reason 18 = .ok (.athrow, 1) := by decide +kernel
theorem dX7_reason_19 : decode cX7_reason 19 = .ok (.aload_n 0, 1) := by decide +kernel
theorem dX7_reason_20 : decode cX7_reason 20 = .ok (.getfield 25, 3) := by decide +kernel
theorem dX7_reason_23 : decode cX7_reason 23 = .ok (.getfield 231, 3) := by decide +kernel
theorem dX7_reason_26 : decode cX7_reason 26 = .ok (.ifCond .ne 13, 3) := by decide +kernel
theorem dX7_reason_29 : decode cX7_reason 29 = .ok (.new 163, 3) := by decide +kernel
theorem dX7_reason_32 : decode cX7_reason 32 = .ok (.dup, 1) := by decide +kernel
theorem dX7_reason_33 : decode cX7_reason 33 = .ok (.ldc 236, 2) := by decide +kernel
theorem dX7_reason_35 : decode cX7_reason 35 = .ok (.invokespecial 167, 3) := by decide +kernel
theorem dX7_reason_38 : decode cX7_reason 38 = .ok (.athrow, 1) := by decide +kernel
theorem dX7_reason_39 : decode cX7_reason 39 = .ok (.iload_n 1, 1) := by decide +kernel
theorem dX7_reason_40 : decode cX7_reason 40 = .ok (.ifCond .ne 13, 3) := by decide +kernel
theorem dX7_reason_43 : decode cX7_reason 43 = .ok (.aload_n 0, 1) := by decide +kernel
theorem dX7_reason_44 : decode cX7_reason 44 = .ok (.getfield 25, 3) := by decide +kernel
theorem dX7_reason_47 : decode cX7_reason 47 = .ok (.getfield 231, 3) := by decide +kernel
theorem dX7_reason_50 : decode cX7_reason 50 = .ok (.goto 25, 3) := by decide +kernel
theorem dX7_reason_53 : decode cX7_reason 53 = .ok (.iload_n 1, 1) := by decide +kernel
theorem dX7_reason_54 : decode cX7_reason 54 = .ok (.iconst 1, 1) := by decide +kernel
theorem dX7_reason_55 : decode cX7_reason 55 = .ok (.if_icmp .ne 13, 3) := by decide +kernel
theorem dX7_reason_58 : decode cX7_reason 58 = .ok (.aload_n 0, 1) := by decide +kernel
theorem dX7_reason_59 : decode cX7_reason 59 = .ok (.getfield 25, 3) := by decide +kernel
theorem dX7_reason_62 : decode cX7_reason 62 = .ok (.getfield 238, 3) := by decide +kernel
theorem dX7_reason_65 : decode cX7_reason 65 = .ok (.goto 10, 3) := by decide +kernel
theorem dX7_reason_68 : decode cX7_reason 68 = .ok (.aload_n 0, 1) := by decide +kernel
theorem dX7_reason_69 : decode cX7_reason 69 = .ok (.getfield 25, 3) := by decide +kernel
theorem dX7_reason_72 : decode cX7_reason 72 = .ok (.getfield 241, 3) := by decide +kernel
theorem dX7_reason_75 : decode cX7_reason 75 = .ok (.ireturn, 1) := by decide +kernel
theorem dX7_line_0 : decode cX7_line 0 = .ok (.aload_n 0, 1) := by decide +kernel
theorem dX7_line_1 : decode cX7_line 1 = .ok (.getfield 20, 3) := by decide +kernel
theorem dX7_line_4 : decode cX7_line 4 = .ok (.iload_n 1, 1) := by decide +kernel
theorem dX7_line_5 : decode cX7_line 5 = .ok (.invokevirtual 105, 3) := by decide +kernel
theorem dX7_line_8 : decode cX7_line 8 = .ok (.astore_n 2, 1) := by decide +kernel
theorem dX7_line_9 : decode cX7_line 9 = .ok (.aload_n 2, 1) := by decide +kernel
theorem dX7_line_10 : decode cX7_line 10 = .ok (.ifnonnull 13, 3) := by decide +kernel
theorem dX7_line_13 : decode cX7_line 13 = .ok (.new 109, 3) := by decide +kernel
theorem dX7_line_16 : decode cX7_line 16 = .ok (.dup, 1) := by decide +kernel
theorem dX7_line_17 : decode cX7_line 17 = .ok (.ldc 111, 2) := by decide +kernel
theorem dX7_line_19 : decode cX7_line 19 = .ok (.invokespecial 113, 3) := by decide +kernel
theorem dX7_line_22 : decode cX7_line 22 = .ok (.athrow, 1) := by decide +kernel
theorem dX7_line_23 : decode cX7_line 23 = .ok (.aload_n 0, 1) := by decide +kernel
theorem dX7_line_24 : decode cX7_line 24 = .ok (.getfield 55, 3) := by decide +kernel
theorem dX7_line_27 : decode cX7_line 27 = .ok (.iconst 0, 1) := by decide +kernel
theorem dX7_line_28 : decode cX7_line 28 = .ok (.invokevirtual 244, 3) := by decide +kernel
theorem dX7_line_31 : decode cX7_line 31 = .ok (.aload_n 0, 1) := by decide +kernel
theorem dX7_line_32 : decode cX7_line 32 = .ok (.getfield 55, 3) := by decide +kernel
theorem dX7_line_35 : decode cX7_line 35 = .ok (.iload_n 1, 1) := by decide +kernel
theorem dX7_line_36 : decode cX7_line 36 = .ok (.invokevirtual 248, 3) := by decide +kernel
theorem dX7_line_39 : decode cX7_line 39 = .ok (.bipush 58, 2) := by decide +kernel
theorem dX7_line_41 : decode cX7_line 41 = .ok (.invokevirtual 252, 3) := by decide +kernel
theorem dX7_line_44 : decode cX7_line 44 = .ok (.aload_n 2, 1) := by decide +kernel
theorem dX7_line_45 : decode cX7_line 45 = .ok (.getfield 255, 3) := by decide +kernel
theorem dX7_line_48 : decode cX7_line 48 = .ok (.invokevirtual 248, 3) := by decide +kernel
theorem dX7_line_51 : decode cX7_line 51 = .ok (.bipush 47, 2) := by decide +kernel
theorem dX7_line_53 : decode cX7_line 53 = .ok (.invokevirtual 252, 3) := by decide +kernel
theorem dX7_line_56 : decode cX7_line 56 = .ok (.aload_n 2, 1) := by decide +kernel
theorem dX7_line_57 : decode cX7_line 57 = .ok (.getfield 258, 3) := by decide +kernel
theorem dX7_line_60 : decode cX7_line 60 = .ok (.invokevirtual 248, 3) := by decide +kernel
theorem dX7_line_63 : decode cX7_line 63 = .ok (.pop, 1) := by decide +kernel
theorem dX7_line_64 : decode cX7_line 64 = .ok (.iconst 0, 1) := by decide +kernel
theorem dX7_line_65 : decode cX7_line 65 = .ok (.istore_n 3, 1) := by decide +kernel
theorem dX7_line_66 : decode cX7_line 66 = .ok (.iload_n 3, 1) := by decide +kernel
theorem dX7_line_67 : decode cX7_line 67 = .ok (.aload_n 2, 1) := by decide +kernel
theorem dX7_line_68 : decode cX7_line 68 = .ok (.getfield 261, 3) := by decide +kernel
theorem dX7_line_71 : decode cX7_line 71 = .ok (.if_icmp .ge 19, 3) := by decide +kernel
theorem dX7_line_74 : decode cX7_line 74 = .ok (.aload_n 0, 1) := by decide +kernel
theorem dX7_line_75 : decode cX7_line 75 = .ok (.getfield 55, 3) := by decide +kernel
theorem dX7_line_78 : decode cX7_line 78 = .ok (.bipush 35, 2) := by decide +kernel
theorem dX7_line_80 : decode cX7_line 80 = .ok (.invokevirtual 252, 3) := by decide +kernel
theorem dX7_line_83 : decode cX7_line 83 = .ok (.pop, 1) := by decide +kernel
theorem dX7_line_84 : decode cX7_line 84 = .ok (.iinc 3 3, 3) := by decide +kernel
theorem dX7_line_87 : decode cX7_line 87 = .ok (.goto (-21), 3) := by decide +kernel
theorem dX7_line_90 : decode cX7_line 90 = .ok (.aload_n 2, 1) := by decide +kernel
theorem dX7_line_91 : decode cX7_line 91 = .ok (.aload_n 0, 1) := by decide +kernel
theorem dX7_line_92 : decode cX7_line 92 = .ok (.getfield 55, 3) := by decide +kernel
theorem dX7_line_95 : decode cX7_line 95 = .ok (.invokevirtual 264, 3) := by decide +kernel
theorem dX7_line_98 : decode cX7_line 98 = .ok (.aload_n 0, 1) := by decide +kernel
theorem dX7_line_99 : decode cX7_line 99 = .ok (.getfield 55, 3) := by decide +kernel
theorem dX7_line_102 : decode cX7_line 102 = .ok (.invokevirtual 268, 3) := by decide +kernel
theorem dX7_line_105 : decode cX7_line 105 = .ok (.ireturn, 1) := by decide +kernel
theorem dX7_character_0 : decode cX7_character 0 = .ok (.iload_n 1, 1) := by decide +kernel
theorem dX7_character_1 : decode cX7_character 1 = .ok (.ifCond .lt 14, 3) := by decide +kernel
theorem dX7_character_4 : decode cX7_character 4 = .ok (.iload_n 1, 1) := by decide +kernel
theorem dX7_character_5 : decode cX7_character 5 = .ok (.aload_n 0, 1) := by decide +kernel
theorem dX7_character_6 : decode cX7_character 6 = .ok (.getfield 55, 3) := by decide +kernel
theorem dX7_character_9 : decode cX7_character 9 = .ok (.invokevirtual 268, 3) := by decide +kernel
theorem dX7_character_12 : decode cX7_character 12 = .ok (.if_icmp .lt 14, 3) := by decide +kernel
theorem dX7_character_15 : decode cX7_character 15 = .ok (.new 109, 3) := by decide +kernel
theorem dX7_character_18 : decode cX7_character 18 = .ok (.dup, 1) := by decide +kernel
theorem dX7_character_19 : decode cX7_character 19 = .ok (.ldc_w 270, 3) := by decide +kernel
theorem dX7_character_22 : decode cX7_character 22 = .ok (.invokespecial 113, 3) := by decide +kernel
theorem dX7_character_25 : decode cX7_character 25 = .ok (.athrow, 1) := by decide +kernel
theorem dX7_character_26 : decode cX7_character 26 = .ok (.aload_n 0, 1) := by decide +kernel
theorem dX7_character_27 : decode cX7_character 27 = .ok (.getfield 55, 3) := by decide +kernel
theorem dX7_character_30 : decode cX7_character 30 = .ok (.iload_n 1, 1) := by decide +kernel
theorem dX7_character_31 : decode cX7_character 31 = .ok (.invokevirtual 272, 3) := by decide +kernel
theorem dX7_character_34 : decode cX7_character 34 = .ok (.ireturn, 1) := by decide +kernel
theorem dX7_meanArrears_0 : decode cX7_meanArrears 0 = .ok (.aload_n 0, 1) := by decide +kernel
theorem dX7_meanArrears_1 : decode cX7_meanArrears 1 = .ok (.getfield 20, 3) := by decide +kernel
theorem dX7_meanArrears_4 : decode cX7_meanArrears 4 = .ok (.getfield 174, 3) := by decide +kernel
theorem dX7_meanArrears_7 : decode cX7_meanArrears 7 = .ok (.ifCond .ne 14, 3) := by decide +kernel
theorem dX7_meanArrears_10 : decode cX7_meanArrears 10 = .ok (.new 276, 3) := by decide +kernel
theorem dX7_meanArrears_13 : decode cX7_meanArrears 13 = .ok (.dup, 1) := by decide +kernel
theorem dX7_meanArrears_14 : decode cX7_meanArrears 14 = .ok (.ldc_w 278, 3) := by decide +kernel
theorem dX7_meanArrears_17 : decode cX7_meanArrears 17 = .ok (.invokespecial 280, 3) := by decide +kernel
theorem dX7_meanArrears_20 : decode cX7_meanArrears 20 = .ok (.athrow, 1) := by decide +kernel
theorem dX7_meanArrears_21 : decode cX7_meanArrears 21 = .ok (.aload_n 0, 1) := by decide +kernel
theorem dX7_meanArrears_22 : decode cX7_meanArrears 22 = .ok (.getfield 20, 3) := by decide +kernel
theorem dX7_meanArrears_25 : decode cX7_meanArrears 25 = .ok (.iconst 4, 1) := by decide +kernel
theorem dX7_meanArrears_26 : decode cX7_meanArrears 26 = .ok (.invokevirtual 281, 3) := by decide +kernel
theorem dX7_meanArrears_29 : decode cX7_meanArrears 29 = .ok (.i2f, 1) := by decide +kernel
theorem dX7_meanArrears_30 : decode cX7_meanArrears 30 = .ok (.aload_n 0, 1) := by decide +kernel
theorem dX7_meanArrears_31 : decode cX7_meanArrears 31 = .ok (.getfield 20, 3) := by decide +kernel
theorem dX7_meanArrears_34 : decode cX7_meanArrears 34 = .ok (.getfield 174, 3) := by decide +kernel
theorem dX7_meanArrears_37 : decode cX7_meanArrears 37 = .ok (.i2f, 1) := by decide +kernel
theorem dX7_meanArrears_38 : decode cX7_meanArrears 38 = .ok (.fdiv, 1) := by decide +kernel
theorem dX7_meanArrears_39 : decode cX7_meanArrears 39 = .ok (.freturn, 1) := by decide +kernel
theorem dX7_paidShare_0 : decode cX7_paidShare 0 = .ok (.aload_n 0, 1) := by decide +kernel
theorem dX7_paidShare_1 : decode cX7_paidShare 1 = .ok (.getfield 20, 3) := by decide +kernel
theorem dX7_paidShare_4 : decode cX7_paidShare 4 = .ok (.invokevirtual 188, 3) := by decide +kernel
theorem dX7_paidShare_7 : decode cX7_paidShare 7 = .ok (.istore_n 1, 1) := by decide +kernel
theorem dX7_paidShare_8 : decode cX7_paidShare 8 = .ok (.iload_n 1, 1) := by decide +kernel
theorem dX7_paidShare_9 : decode cX7_paidShare 9 = .ok (.ifCond .ne 14, 3) := by decide +kernel
theorem dX7_paidShare_12 : decode cX7_paidShare 12 = .ok (.new 276, 3) := by decide +kernel
theorem dX7_paidShare_15 : decode cX7_paidShare 15 = .ok (.dup, 1) := by decide +kernel
theorem dX7_paidShare_16 : decode cX7_paidShare 16 = .ok (.ldc_w 284, 3) := by decide +kernel
theorem dX7_paidShare_19 : decode cX7_paidShare 19 = .ok (.invokespecial 280, 3) := by decide +kernel
theorem dX7_paidShare_22 : decode cX7_paidShare 22 = .ok (.athrow, 1) := by decide +kernel
theorem dX7_paidShare_23 : decode cX7_paidShare 23 = .ok (.aload_n 0, 1) := by decide +kernel
theorem dX7_paidShare_24 : decode cX7_paidShare 24 = .ok (.getfield 20, 3) := by decide +kernel
theorem dX7_paidShare_27 : decode cX7_paidShare 27 = .ok (.getfield 286, 3) := by decide +kernel
theorem dX7_paidShare_30 : decode cX7_paidShare 30 = .ok (.i2d, 1) := by decide +kernel
theorem dX7_paidShare_31 : decode cX7_paidShare 31 = .ok (.iload_n 1, 1) := by decide +kernel
theorem dX7_paidShare_32 : decode cX7_paidShare 32 = .ok (.i2d, 1) := by decide +kernel
theorem dX7_paidShare_33 : decode cX7_paidShare 33 = .ok (.ddiv, 1) := by decide +kernel
theorem dX7_paidShare_34 : decode cX7_paidShare 34 = .ok (.dreturn, 1) := by decide +kernel
theorem dX7_account_0 : decode cX7_account 0 = .ok (.iload_n 1, 1) := by decide +kernel
theorem dX7_account_1 : decode cX7_account 1 = .ok (.iconst 0, 1) := by decide +kernel
theorem dX7_account_2 : decode cX7_account 2 = .ok (.bipush 15, 2) := by decide +kernel
theorem dX7_account_4 : decode cX7_account 4 = .ok (.invokestatic 116, 3) := by decide +kernel
theorem dX7_account_7 : decode cX7_account 7 = .ok (.ifCond .eq 14, 3) := by decide +kernel
theorem dX7_account_10 : decode cX7_account 10 = .ok (.new 120, 3) := by decide +kernel
theorem dX7_account_13 : decode cX7_account 13 = .ok (.dup, 1) := by decide +kernel
theorem dX7_account_14 : decode cX7_account 14 = .ok (.ldc_w 289, 3) := by decide +kernel
theorem dX7_account_17 : decode cX7_account 17 = .ok (.invokespecial 124, 3) := by decide +kernel
theorem dX7_account_20 : decode cX7_account 20 = .ok (.athrow, 1) := by decide +kernel
theorem dX7_account_21 : decode cX7_account 21 = .ok (.iload_n 1, 1) := by decide +kernel
theorem dX7_account_22 : decode cX7_account 22 = .ok (.bipush 14, 2) := by decide +kernel
theorem dX7_account_24 : decode cX7_account 24 = .ok (.if_icmp .ne 11, 3) := by decide +kernel
theorem dX7_account_27 : decode cX7_account 27 = .ok (.aload_n 0, 1) := by decide +kernel
theorem dX7_account_28 : decode cX7_account 28 = .ok (.getfield 31, 3) := by decide +kernel
theorem dX7_account_31 : decode cX7_account 31 = .ok (.getfield 291, 3) := by decide +kernel
theorem dX7_account_34 : decode cX7_account 34 = .ok (.ireturn, 1) := by decide +kernel
theorem dX7_account_35 : decode cX7_account 35 = .ok (.iload_n 1, 1) := by decide +kernel
theorem dX7_account_36 : decode cX7_account 36 = .ok (.bipush 15, 2) := by decide +kernel
theorem dX7_account_38 : decode cX7_account 38 = .ok (.if_icmp .ne 11, 3) := by decide +kernel
theorem dX7_account_41 : decode cX7_account 41 = .ok (.aload_n 0, 1) := by decide +kernel
theorem dX7_account_42 : decode cX7_account 42 = .ok (.getfield 44, 3) := by decide +kernel
theorem dX7_account_45 : decode cX7_account 45 = .ok (.getfield 191, 3) := by decide +kernel
theorem dX7_account_48 : decode cX7_account 48 = .ok (.ireturn, 1) := by decide +kernel
theorem dX7_account_49 : decode cX7_account 49 = .ok (.aload_n 0, 1) := by decide +kernel
theorem dX7_account_50 : decode cX7_account 50 = .ok (.getfield 20, 3) := by decide +kernel
theorem dX7_account_53 : decode cX7_account 53 = .ok (.iload_n 1, 1) := by decide +kernel
theorem dX7_account_54 : decode cX7_account 54 = .ok (.invokevirtual 292, 3) := by decide +kernel
theorem dX7_account_57 : decode cX7_account 57 = .ok (.ireturn, 1) := by decide +kernel
theorem dX7_undo_0 : decode cX7_undo 0 = .ok (.aload_n 0, 1) := by decide +kernel
theorem dX7_undo_1 : decode cX7_undo 1 = .ok (.getfield 31, 3) := by decide +kernel
theorem dX7_undo_4 : decode cX7_undo 4 = .ok (.getfield 291, 3) := by decide +kernel
theorem dX7_undo_7 : decode cX7_undo 7 = .ok (.ifCond .ne 14, 3) := by decide +kernel
theorem dX7_undo_10 : decode cX7_undo 10 = .ok (.new 194, 3) := by decide +kernel
theorem dX7_undo_13 : decode cX7_undo 13 = .ok (.dup, 1) := by decide +kernel
theorem dX7_undo_14 : decode cX7_undo 14 = .ok (.ldc_w 293, 3) := by decide +kernel
theorem dX7_undo_17 : decode cX7_undo 17 = .ok (.invokespecial 198, 3) := by decide +kernel
theorem dX7_undo_20 : decode cX7_undo 20 = .ok (.athrow, 1) := by decide +kernel
theorem dX7_undo_21 : decode cX7_undo 21 = .ok (.aload_n 0, 1) := by decide +kernel
theorem dX7_undo_22 : decode cX7_undo 22 = .ok (.getfield 31, 3) := by decide +kernel
theorem dX7_undo_25 : decode cX7_undo 25 = .ok (.aload_n 0, 1) := by decide +kernel
theorem dX7_undo_26 : decode cX7_undo 26 = .ok (.getfield 20, 3) := by decide +kernel
theorem dX7_undo_29 : decode cX7_undo 29 = .ok (.invokevirtual 295, 3) := by decide +kernel
theorem dX7_undo_32 : decode cX7_undo 32 = .ok (.aload_n 0, 1) := by decide +kernel
theorem dX7_undo_33 : decode cX7_undo 33 = .ok (.getfield 31, 3) := by decide +kernel
theorem dX7_undo_36 : decode cX7_undo 36 = .ok (.getfield 291, 3) := by decide +kernel
theorem dX7_undo_39 : decode cX7_undo 39 = .ok (.ireturn, 1) := by decide +kernel
theorem dX7_save_0 : decode cX7_save 0 = .ok (.aload_n 0, 1) := by decide +kernel
theorem dX7_save_1 : decode cX7_save 1 = .ok (.getfield 38, 3) := by decide +kernel
theorem dX7_save_4 : decode cX7_save 4 = .ok (.aload_n 0, 1) := by decide +kernel
theorem dX7_save_5 : decode cX7_save 5 = .ok (.getfield 20, 3) := by decide +kernel
theorem dX7_save_8 : decode cX7_save 8 = .ok (.invokevirtual 298, 3) := by decide +kernel
theorem dX7_save_11 : decode cX7_save 11 = .ok (.aload_n 0, 1) := by decide +kernel
theorem dX7_save_12 : decode cX7_save 12 = .ok (.iconst 1, 1) := by decide +kernel
theorem dX7_save_13 : decode cX7_save 13 = .ok (.putfield 301, 3) := by decide +kernel
theorem dX7_save_16 : decode cX7_save 16 = .ok (.aload_n 0, 1) := by decide +kernel
theorem dX7_save_17 : decode cX7_save 17 = .ok (.getfield 20, 3) := by decide +kernel
theorem dX7_save_20 : decode cX7_save 20 = .ok (.getfield 305, 3) := by decide +kernel
theorem dX7_save_23 : decode cX7_save 23 = .ok (.ireturn, 1) := by decide +kernel
theorem dX7_restore_0 : decode cX7_restore 0 = .ok (.aload_n 0, 1) := by decide +kernel
theorem dX7_restore_1 : decode cX7_restore 1 = .ok (.getfield 301, 3) := by decide +kernel
theorem dX7_restore_4 : decode cX7_restore 4 = .ok (.ifCond .ne 14, 3) := by decide +kernel
theorem dX7_restore_7 : decode cX7_restore 7 = .ok (.new 194, 3) := by decide +kernel
theorem dX7_restore_10 : decode cX7_restore 10 = .ok (.dup, 1) := by decide +kernel
theorem dX7_restore_11 : decode cX7_restore 11 = .ok (.ldc_w 308, 3) := by decide +kernel
theorem dX7_restore_14 : decode cX7_restore 14 = .ok (.invokespecial 198, 3) := by decide +kernel
theorem dX7_restore_17 : decode cX7_restore 17 = .ok (.athrow, 1) := by decide +kernel
theorem dX7_restore_18 : decode cX7_restore 18 = .ok (.aload_n 0, 1) := by decide +kernel
theorem dX7_restore_19 : decode cX7_restore 19 = .ok (.getfield 20, 3) := by decide +kernel
theorem dX7_restore_22 : decode cX7_restore 22 = .ok (.aload_n 0, 1) := by decide +kernel
theorem dX7_restore_23 : decode cX7_restore 23 = .ok (.getfield 38, 3) := by decide +kernel
theorem dX7_restore_26 : decode cX7_restore 26 = .ok (.invokevirtual 298, 3) := by decide +kernel
theorem dX7_restore_29 : decode cX7_restore 29 = .ok (.aload_n 0, 1) := by decide +kernel
theorem dX7_restore_30 : decode cX7_restore 30 = .ok (.getfield 31, 3) := by decide +kernel
theorem dX7_restore_33 : decode cX7_restore 33 = .ok (.invokevirtual 310, 3) := by decide +kernel
theorem dX7_restore_36 : decode cX7_restore 36 = .ok (.aload_n 0, 1) := by decide +kernel
theorem dX7_restore_37 : decode cX7_restore 37 = .ok (.getfield 20, 3) := by decide +kernel
theorem dX7_restore_40 : decode cX7_restore 40 = .ok (.getfield 305, 3) := by decide +kernel
theorem dX7_restore_43 : decode cX7_restore 43 = .ok (.ireturn, 1) := by decide +kernel
theorem dX7_settled_0 : decode cX7_settled 0 = .ok (.iload_n 1, 1) := by decide +kernel
theorem dX7_settled_1 : decode cX7_settled 1 = .ok (.iconst (-1), 1) := by decide +kernel
theorem dX7_settled_2 : decode cX7_settled 2 = .ok (.if_icmp .ne 14, 3) := by decide +kernel
theorem dX7_settled_5 : decode cX7_settled 5 = .ok (.new 218, 3) := by decide +kernel
theorem dX7_settled_8 : decode cX7_settled 8 = .ok (.dup, 1) := by decide +kernel
theorem dX7_settled_9 : decode cX7_settled 9 = .ok (.ldc_w 313, 3) := by decide +kernel
theorem dX7_settled_12 : decode cX7_settled 12 = .ok (.invokespecial 222, 3) := by decide +kernel
theorem dX7_settled_15 : decode cX7_settled 15 = .ok (.athrow, 1) := by decide +kernel
theorem dX7_settled_16 : decode cX7_settled 16 = .ok (.aload_n 0, 1) := by decide +kernel
theorem dX7_settled_17 : decode cX7_settled 17 = .ok (.getfield 31, 3) := by decide +kernel
theorem dX7_settled_20 : decode cX7_settled 20 = .ok (.invokevirtual 223, 3) := by decide +kernel
theorem dX7_settled_23 : decode cX7_settled 23 = .ok (.iload_n 1, 1) := by decide +kernel
theorem dX7_settled_24 : decode cX7_settled 24 = .ok (.ireturn, 1) := by decide +kernel
theorem dX7_allCarriedOut_0 : decode cX7_allCarriedOut 0 = .ok (.iconst 0, 1) := by decide +kernel
theorem dX7_allCarriedOut_1 : decode cX7_allCarriedOut 1 = .ok (.istore_n 1, 1) := by decide +kernel
theorem dX7_allCarriedOut_2 : decode cX7_allCarriedOut 2 = .ok (.iload_n 1, 1) := by decide +kernel
theorem dX7_allCarriedOut_3 : decode cX7_allCarriedOut 3 = .ok (.aload_n 0, 1) := by decide +kernel
theorem dX7_allCarriedOut_4 : decode cX7_allCarriedOut 4 = .ok (.getfield 44, 3) := by decide +kernel
theorem dX7_allCarriedOut_7 : decode cX7_allCarriedOut 7 = .ok (.getfield 226, 3) := by decide +kernel
theorem dX7_allCarriedOut_10 : decode cX7_allCarriedOut 10 = .ok (.if_icmp .ge 63, 3) := by decide +kernel
theorem dX7_allCarriedOut_13 : decode cX7_allCarriedOut 13 = .ok (.iload_n 1, 1) := by decide +kernel
theorem dX7_allCarriedOut_14 : decode cX7_allCarriedOut 14 = .ok (.bipush 30, 2) := by decide +kernel
theorem dX7_allCarriedOut_16 : decode cX7_allCarriedOut 16 = .ok (.if_icmp .ge 57, 3) := by decide +kernel
theorem dX7_allCarriedOut_19 : decode cX7_allCarriedOut 19 = .ok (.aload_n 0, 1) := by decide +kernel
theorem dX7_allCarriedOut_20 : decode cX7_allCarriedOut 20 = .ok (.getfield 10, 3) := by decide +kernel
theorem dX7_allCarriedOut_23 : decode cX7_allCarriedOut 23 = .ok (.aload_n 0, 1) := by decide +kernel
theorem dX7_allCarriedOut_24 : decode cX7_allCarriedOut 24 = .ok (.getfield 44, 3) := by decide +kernel
theorem dX7_allCarriedOut_27 : decode cX7_allCarriedOut 27 = .ok (.getfield 315, 3) := by decide +kernel
theorem dX7_allCarriedOut_30 : decode cX7_allCarriedOut 30 = .ok (.iload_n 1, 1) := by decide +kernel
theorem dX7_allCarriedOut_31 : decode cX7_allCarriedOut 31 = .ok (.iaload, 1) := by decide +kernel
theorem dX7_allCarriedOut_32 : decode cX7_allCarriedOut 32 = .ok (.aload_n 0, 1) := by decide +kernel
theorem dX7_allCarriedOut_33 : decode cX7_allCarriedOut 33 = .ok (.getfield 44, 3) := by decide +kernel
theorem dX7_allCarriedOut_36 : decode cX7_allCarriedOut 36 = .ok (.getfield 318, 3) := by decide +kernel
theorem dX7_allCarriedOut_39 : decode cX7_allCarriedOut 39 = .ok (.iload_n 1, 1) := by decide +kernel
theorem dX7_allCarriedOut_40 : decode cX7_allCarriedOut 40 = .ok (.iaload, 1) := by decide +kernel
theorem dX7_allCarriedOut_41 : decode cX7_allCarriedOut 41 = .ok (.aload_n 0, 1) := by decide +kernel
theorem dX7_allCarriedOut_42 : decode cX7_allCarriedOut 42 = .ok (.getfield 44, 3) := by decide +kernel
theorem dX7_allCarriedOut_45 : decode cX7_allCarriedOut 45 = .ok (.getfield 321, 3) := by decide +kernel
theorem dX7_allCarriedOut_48 : decode cX7_allCarriedOut 48 = .ok (.iload_n 1, 1) := by decide +kernel
theorem dX7_allCarriedOut_49 : decode cX7_allCarriedOut 49 = .ok (.iaload, 1) := by decide +kernel
theorem dX7_allCarriedOut_50 : decode cX7_allCarriedOut 50 = .ok (.invokevirtual 324, 3) := by decide +kernel
theorem dX7_allCarriedOut_53 : decode cX7_allCarriedOut 53 = .ok (.iconst (-1), 1) := by decide +kernel
theorem dX7_allCarriedOut_54 : decode cX7_allCarriedOut 54 = .ok (.if_icmp .ne 13, 3) := by decide +kernel
theorem dX7_allCarriedOut_57 : decode cX7_allCarriedOut 57 = .ok (.aload_n 0, 1) := by decide +kernel
theorem dX7_allCarriedOut_58 : decode cX7_allCarriedOut 58 = .ok (.getfield 25, 3) := by decide +kernel
theorem dX7_allCarriedOut_61 : decode cX7_allCarriedOut 61 = .ok (.iload_n 1, 1) := by decide +kernel
theorem dX7_allCarriedOut_62 : decode cX7_allCarriedOut 62 = .ok (.putfield 241, 3) := by decide +kernel
theorem dX7_allCarriedOut_65 : decode cX7_allCarriedOut 65 = .ok (.iconst 0, 1) := by decide +kernel
theorem dX7_allCarriedOut_66 : decode cX7_allCarriedOut 66 = .ok (.ireturn, 1) := by decide +kernel
theorem dX7_allCarriedOut_67 : decode cX7_allCarriedOut 67 = .ok (.iinc 1 1, 3) := by decide +kernel
theorem dX7_allCarriedOut_70 : decode cX7_allCarriedOut 70 = .ok (.goto (-68), 3) := by decide +kernel
theorem dX7_allCarriedOut_73 : decode cX7_allCarriedOut 73 = .ok (.iconst 1, 1) := by decide +kernel
theorem dX7_allCarriedOut_74 : decode cX7_allCarriedOut 74 = .ok (.ireturn, 1) := by decide +kernel
theorem dX7_isOutside_0 : decode cX7_isOutside 0 = .ok (.iload_n 0, 1) := by decide +kernel
theorem dX7_isOutside_1 : decode cX7_isOutside 1 = .ok (.iload_n 1, 1) := by decide +kernel
theorem dX7_isOutside_2 : decode cX7_isOutside 2 = .ok (.if_icmp .lt 8, 3) := by decide +kernel
theorem dX7_isOutside_5 : decode cX7_isOutside 5 = .ok (.iload_n 0, 1) := by decide +kernel
theorem dX7_isOutside_6 : decode cX7_isOutside 6 = .ok (.iload_n 2, 1) := by decide +kernel
theorem dX7_isOutside_7 : decode cX7_isOutside 7 = .ok (.if_icmp .le 7, 3) := by decide +kernel
theorem dX7_isOutside_10 : decode cX7_isOutside 10 = .ok (.iconst 1, 1) := by decide +kernel
theorem dX7_isOutside_11 : decode cX7_isOutside 11 = .ok (.goto 4, 3) := by decide +kernel
theorem dX7_isOutside_14 : decode cX7_isOutside 14 = .ok (.iconst 0, 1) := by decide +kernel
theorem dX7_isOutside_15 : decode cX7_isOutside 15 = .ok (.ireturn, 1) := by decide +kernel
theorem dX8_init_0 : decode cX8_init 0 = .ok (.aload_n 0, 1) := by decide +kernel
theorem dX8_init_1 : decode cX8_init 1 = .ok (.invokespecial 3, 3) := by decide +kernel
theorem dX8_init_4 : decode cX8_init 4 = .ok (.aload_n 0, 1) := by decide +kernel
theorem dX8_init_5 : decode cX8_init 5 = .ok (.bipush 102, 2) := by decide +kernel
theorem dX8_init_7 : decode cX8_init 7 = .ok (.newarray .int, 2) := by decide +kernel
theorem dX8_init_9 : decode cX8_init 9 = .ok (.putfield 9, 3) := by decide +kernel
theorem dX8_init_12 : decode cX8_init 12 = .ok (.aload_n 0, 1) := by decide +kernel
theorem dX8_init_13 : decode cX8_init 13 = .ok (.bipush 102, 2) := by decide +kernel
theorem dX8_init_15 : decode cX8_init 15 = .ok (.newarray .int, 2) := by decide +kernel
theorem dX8_init_17 : decode cX8_init 17 = .ok (.putfield 13, 3) := by decide +kernel
theorem dX8_init_20 : decode cX8_init 20 = .ok (.aload_n 0, 1) := by decide +kernel
theorem dX8_init_21 : decode cX8_init 21 = .ok (.bipush 102, 2) := by decide +kernel
theorem dX8_init_23 : decode cX8_init 23 = .ok (.newarray .int, 2) := by decide +kernel
theorem dX8_init_25 : decode cX8_init 25 = .ok (.putfield 16, 3) := by decide +kernel
theorem dX8_init_28 : decode cX8_init 28 = .ok (.aload_n 0, 1) := by decide +kernel
theorem dX8_init_29 : decode cX8_init 29 = .ok (.sipush 816, 3) := by decide +kernel
theorem dX8_init_32 : decode cX8_init 32 = .ok (.newarray .int, 2) := by decide +kernel
theorem dX8_init_34 : decode cX8_init 34 = .ok (.putfield 19, 3) := by decide +kernel
theorem dX8_init_37 : decode cX8_init 37 = .ok (.aload_n 0, 1) := by decide +kernel
theorem dX8_init_38 : decode cX8_init 38 = .ok (.bipush 60, 2) := by decide +kernel
theorem dX8_init_40 : decode cX8_init 40 = .ok (.newarray .int, 2) := by decide +kernel
theorem dX8_init_42 : decode cX8_init 42 = .ok (.putfield 22, 3) := by decide +kernel
theorem dX8_init_45 : decode cX8_init 45 = .ok (.aload_n 0, 1) := by decide +kernel
theorem dX8_init_46 : decode cX8_init 46 = .ok (.iconst (-1), 1) := by decide +kernel
theorem dX8_init_47 : decode cX8_init 47 = .ok (.putfield 25, 3) := by decide +kernel
theorem dX8_init_50 : decode cX8_init 50 = .ok (.aload_n 0, 1) := by decide +kernel
theorem dX8_init_51 : decode cX8_init 51 = .ok (.bipush 40, 2) := by decide +kernel
theorem dX8_init_53 : decode cX8_init 53 = .ok (.newarray .int, 2) := by decide +kernel
theorem dX8_init_55 : decode cX8_init 55 = .ok (.putfield 29, 3) := by decide +kernel
theorem dX8_init_58 : decode cX8_init 58 = .ok (.aload_n 0, 1) := by decide +kernel
theorem dX8_init_59 : decode cX8_init 59 = .ok (.bipush 32, 2) := by decide +kernel
theorem dX8_init_61 : decode cX8_init 61 = .ok (.newarray .int, 2) := by decide +kernel
theorem dX8_init_63 : decode cX8_init 63 = .ok (.putfield 32, 3) := by decide +kernel
theorem dX8_init_66 : decode cX8_init 66 = .ok (.aload_n 0, 1) := by decide +kernel
theorem dX8_init_67 : decode cX8_init 67 = .ok (.bipush 64, 2) := by decide +kernel
theorem dX8_init_69 : decode cX8_init 69 = .ok (.newarray .int, 2) := by decide +kernel
theorem dX8_init_71 : decode cX8_init 71 = .ok (.putfield 35, 3) := by decide +kernel
theorem dX8_init_74 : decode cX8_init 74 = .ok (.aload_n 0, 1) := by decide +kernel
theorem dX8_init_75 : decode cX8_init 75 = .ok (.getfield 9, 3) := by decide +kernel
theorem dX8_init_78 : decode cX8_init 78 = .ok (.iconst 5, 1) := by decide +kernel
theorem dX8_init_79 : decode cX8_init 79 = .ok (.bipush 100, 2) := by decide +kernel
theorem dX8_init_81 : decode cX8_init 81 = .ok (.iastore, 1) := by decide +kernel
theorem dX8_init_82 : decode cX8_init 82 = .ok (.aload_n 0, 1) := by decide +kernel
theorem dX8_init_83 : decode cX8_init 83 = .ok (.getfield 9, 3) := by decide +kernel
theorem dX8_init_86 : decode cX8_init 86 = .ok (.bipush 6, 2) := by decide +kernel
theorem dX8_init_88 : decode cX8_init 88 = .ok (.bipush 20, 2) := by decide +kernel
theorem dX8_init_90 : decode cX8_init 90 = .ok (.iastore, 1) := by decide +kernel
theorem dX8_init_91 : decode cX8_init 91 = .ok (.aload_n 0, 1) := by decide +kernel
theorem dX8_init_92 : decode cX8_init 92 = .ok (.getfield 9, 3) := by decide +kernel
theorem dX8_init_95 : decode cX8_init 95 = .ok (.bipush 8, 2) := by decide +kernel
theorem dX8_init_97 : decode cX8_init 97 = .ok (.iconst 3, 1) := by decide +kernel
theorem dX8_init_98 : decode cX8_init 98 = .ok (.iastore, 1) := by decide +kernel
theorem dX8_init_99 : decode cX8_init 99 = .ok (.return_, 1) := by decide +kernel
theorem dX8_thrown_0 : decode cX8_thrown 0 = .ok (.aload_n 0, 1) := by decide +kernel
theorem dX8_thrown_1 : decode cX8_thrown 1 = .ok (.getfield 38, 3) := by decide +kernel
theorem dX8_thrown_4 : decode cX8_thrown 4 = .ok (.ireturn, 1) := by decide +kernel
theorem dX8_isIn_0 : decode cX8_isIn 0 = .ok (.iload_n 0, 1) := by decide +kernel
theorem dX8_isIn_1 : decode cX8_isIn 1 = .ok (.iload_n 1, 1) := by decide +kernel
theorem dX8_isIn_2 : decode cX8_isIn 2 = .ok (.if_icmp .lt 12, 3) := by decide +kernel
theorem dX8_isIn_5 : decode cX8_isIn 5 = .ok (.iload_n 0, 1) := by decide +kernel
theorem dX8_isIn_6 : decode cX8_isIn 6 = .ok (.iload_n 2, 1) := by decide +kernel
theorem dX8_isIn_7 : decode cX8_isIn 7 = .ok (.if_icmp .gt 7, 3) := by decide +kernel
theorem dX8_isIn_10 : decode cX8_isIn 10 = .ok (.iconst 1, 1) := by decide +kernel
theorem dX8_isIn_11 : decode cX8_isIn 11 = .ok (.goto 4, 3) := by decide +kernel
theorem dX8_isIn_14 : decode cX8_isIn 14 = .ok (.iconst 0, 1) := by decide +kernel
theorem dX8_isIn_15 : decode cX8_isIn 15 = .ok (.ireturn, 1) := by decide +kernel
theorem dX8_copies_0 : decode cX8_copies 0 = .ok (.iconst 0, 1) := by decide +kernel
theorem dX8_copies_1 : decode cX8_copies 1 = .ok (.istore 4, 2) := by decide +kernel
theorem dX8_copies_3 : decode cX8_copies 3 = .ok (.iload 4, 2) := by decide +kernel
theorem dX8_copies_5 : decode cX8_copies 5 = .ok (.bipush 102, 2) := by decide +kernel
theorem dX8_copies_7 : decode cX8_copies 7 = .ok (.if_icmp .ge 21, 3) := by decide +kernel
theorem dX8_copies_10 : decode cX8_copies 10 = .ok (.aload_n 2, 1) := by decide +kernel
theorem dX8_copies_11 : decode cX8_copies 11 = .ok (.iload_n 3, 1) := by decide +kernel
theorem dX8_copies_12 : decode cX8_copies 12 = .ok (.iload 4, 2) := by decide +kernel
theorem dX8_copies_14 : decode cX8_copies 14 = .ok (.iadd, 1) := by decide +kernel
theorem dX8_copies_15 : decode cX8_copies 15 = .ok (.aload_n 0, 1) := by decide +kernel
theorem dX8_copies_16 : decode cX8_copies 16 = .ok (.iload_n 1, 1) := by decide +kernel
theorem dX8_copies_17 : decode cX8_copies 17 = .ok (.iload 4, 2) := by decide +kernel
theorem dX8_copies_19 : decode cX8_copies 19 = .ok (.iadd, 1) := by decide +kernel
theorem dX8_copies_20 : decode cX8_copies 20 = .ok (.iaload, 1) := by decide +kernel
theorem dX8_copies_21 : decode cX8_copies 21 = .ok (.iastore, 1) := by decide +kernel
theorem dX8_copies_22 : decode cX8_copies 22 = .ok (.iinc 4 1, 3) := by decide +kernel
theorem dX8_copies_25 : decode cX8_copies 25 = .ok (.goto (-22), 3) := by decide +kernel
theorem dX8_copies_28 : decode cX8_copies 28 = .ok (.return_, 1) := by decide +kernel
theorem dX8_hinders_0 : decode cX8_hinders 0 = .ok (.iload_n 1, 1) := by decide +kernel
theorem dX8_hinders_1 : decode cX8_hinders 1 = .ok (.ifCond .eq 20, 3) := by decide +kernel
theorem dX8_hinders_4 : decode cX8_hinders 4 = .ok (.aload_n 0, 1) := by decide +kernel
theorem dX8_hinders_5 : decode cX8_hinders 5 = .ok (.getfield 41, 3) := by decide +kernel
theorem dX8_hinders_8 : decode cX8_hinders 8 = .ok (.ifCond .ne 13, 3) := by decide +kernel
theorem dX8_hinders_11 : decode cX8_hinders 11 = .ok (.aload_n 0, 1) := by decide +kernel
theorem dX8_hinders_12 : decode cX8_hinders 12 = .ok (.iload_n 2, 1) := by decide +kernel
theorem dX8_hinders_13 : decode cX8_hinders 13 = .ok (.putfield 41, 3) := by decide +kernel
theorem dX8_hinders_16 : decode cX8_hinders 16 = .ok (.aload_n 0, 1) := by decide +kernel
theorem dX8_hinders_17 : decode cX8_hinders 17 = .ok (.iload_n 3, 1) := by decide +kernel
theorem dX8_hinders_18 : decode cX8_hinders 18 = .ok (.putfield 44, 3) := by decide +kernel
theorem dX8_hinders_21 : decode cX8_hinders 21 = .ok (.return_, 1) := by decide +kernel
theorem dX8_begins_0 : decode cX8_begins 0 = .ok (.aload_n 0, 1) := by decide +kernel
theorem dX8_begins_1 : decode cX8_begins 1 = .ok (.getfield 9, 3) := by decide +kernel
theorem dX8_begins_4 : decode cX8_begins 4 = .ok (.iconst 0, 1) := by decide +kernel
theorem dX8_begins_5 : decode cX8_begins 5 = .ok (.aload_n 0, 1) := by decide +kernel
theorem dX8_begins_6 : decode cX8_begins 6 = .ok (.getfield 13, 3) := by decide +kernel
theorem dX8_begins_9 : decode cX8_begins 9 = .ok (.iconst 0, 1) := by decide +kernel
theorem dX8_begins_10 : decode cX8_begins 10 = .ok (.invokestatic 47, 3) := by decide +kernel
theorem dX8_begins_13 : decode cX8_begins 13 = .ok (.aload_n 0, 1) := by decide +kernel
theorem dX8_begins_14 : decode cX8_begins 14 = .ok (.iconst 0, 1) := by decide +kernel
theorem dX8_begins_15 : decode cX8_begins 15 = .ok (.putfield 41, 3) := by decide +kernel
theorem dX8_begins_18 : decode cX8_begins 18 = .ok (.return_, 1) := by decide +kernel
theorem dX8_remembers_0 : decode cX8_remembers 0 = .ok (.aload_n 0, 1) := by decide +kernel
theorem dX8_remembers_1 : decode cX8_remembers 1 = .ok (.getfield 51, 3) := by decide +kernel
theorem dX8_remembers_4 : decode cX8_remembers 4 = .ok (.bipush 8, 2) := by decide +kernel
theorem dX8_remembers_6 : decode cX8_remembers 6 = .ok (.if_icmp .ne 43, 3) := by decide +kernel
theorem dX8_remembers_9 : decode cX8_remembers 9 = .ok (.iconst 0, 1) := by decide +kernel
theorem dX8_remembers_10 : decode cX8_remembers 10 = .ok (.istore_n 1, 1) := by decide +kernel
theorem dX8_remembers_11 : decode cX8_remembers 11 = .ok (.iload_n 1, 1) := by decide +kernel
theorem dX8_remembers_12 : decode cX8_remembers 12 = .ok (.sipush 714, 3) := by decide +kernel
theorem dX8_remembers_15 : decode cX8_remembers 15 = .ok (.if_icmp .ge 24, 3) := by decide +kernel
theorem dX8_remembers_18 : decode cX8_remembers 18 = .ok (.aload_n 0, 1) := by decide +kernel
theorem dX8_remembers_19 : decode cX8_remembers 19 = .ok (.getfield 19, 3) := by decide +kernel
theorem dX8_remembers_22 : decode cX8_remembers 22 = .ok (.iload_n 1, 1) := by decide +kernel
theorem dX8_remembers_23 : decode cX8_remembers 23 = .ok (.aload_n 0, 1) := by decide +kernel
theorem dX8_remembers_24 : decode cX8_remembers 24 = .ok (.getfield 19, 3) := by decide +kernel
theorem dX8_remembers_27 : decode cX8_remembers 27 = .ok (.iload_n 1, 1) := by decide +kernel
theorem dX8_remembers_28 : decode cX8_remembers 28 = .ok (.bipush 102, 2) := by decide +kernel
theorem dX8_remembers_30 : decode cX8_remembers 30 = .ok (.iadd, 1) := by decide +kernel
theorem dX8_remembers_31 : decode cX8_remembers 31 = .ok (.iaload, 1) := by decide +kernel
theorem dX8_remembers_32 : decode cX8_remembers 32 = .ok (.iastore, 1) := by decide +kernel
theorem dX8_remembers_33 : decode cX8_remembers 33 = .ok (.iinc 1 1, 3) := by decide +kernel
theorem dX8_remembers_36 : decode cX8_remembers 36 = .ok (.goto (-25), 3) := by decide +kernel
theorem dX8_remembers_39 : decode cX8_remembers 39 = .ok (.aload_n 0, 1) := by decide +kernel
theorem dX8_remembers_40 : decode cX8_remembers 40 = .ok (.dup, 1) := by decide +kernel
theorem dX8_remembers_41 : decode cX8_remembers 41 = .ok (.getfield 51, 3) := by decide +kernel
theorem dX8_remembers_44 : decode cX8_remembers 44 = .ok (.iconst 1, 1) := by decide +kernel
theorem dX8_remembers_45 : decode cX8_remembers 45 = .ok (.isub, 1) := by decide +kernel
theorem dX8_remembers_46 : decode cX8_remembers 46 = .ok (.putfield 51, 3) := by decide +kernel
theorem dX8_remembers_49 : decode cX8_remembers 49 = .ok (.aload_n 0, 1) := by decide +kernel
theorem dX8_remembers_50 : decode cX8_remembers 50 = .ok (.getfield 13, 3) := by decide +kernel
theorem dX8_remembers_53 : decode cX8_remembers 53 = .ok (.iconst 0, 1) := by decide +kernel
theorem dX8_remembers_54 : decode cX8_remembers 54 = .ok (.aload_n 0, 1) := by decide +kernel
theorem dX8_remembers_55 : decode cX8_remembers 55 = .ok (.getfield 19, 3) := by decide +kernel
theorem dX8_remembers_58 : decode cX8_remembers 58 = .ok (.aload_n 0, 1) := by decide +kernel
theorem dX8_remembers_59 : decode cX8_remembers 59 = .ok (.getfield 51, 3) := by decide +kernel
theorem dX8_remembers_62 : decode cX8_remembers 62 = .ok (.bipush 102, 2) := by decide +kernel
theorem dX8_remembers_64 : decode cX8_remembers 64 = .ok (.imul, 1) := by decide +kernel
theorem dX8_remembers_65 : decode cX8_remembers 65 = .ok (.invokestatic 47, 3) := by decide +kernel
theorem dX8_remembers_68 : decode cX8_remembers 68 = .ok (.aload_n 0, 1) := by decide +kernel
theorem dX8_remembers_69 : decode cX8_remembers 69 = .ok (.dup, 1) := by decide +kernel
theorem dX8_remembers_70 : decode cX8_remembers 70 = .ok (.getfield 51, 3) := by decide +kernel
theorem dX8_remembers_73 : decode cX8_remembers 73 = .ok (.iconst 1, 1) := by decide +kernel
theorem dX8_remembers_74 : decode cX8_remembers 74 = .ok (.iadd, 1) := by decide +kernel
theorem dX8_remembers_75 : decode cX8_remembers 75 = .ok (.putfield 51, 3) := by decide +kernel
theorem dX8_remembers_78 : decode cX8_remembers 78 = .ok (.return_, 1) := by decide +kernel
theorem dX8_ends_0 : decode cX8_ends 0 = .ok (.aload_n 0, 1) := by decide +kernel
theorem dX8_ends_1 : decode cX8_ends 1 = .ok (.aload_n 0, 1) := by decide +kernel
theorem dX8_ends_2 : decode cX8_ends 2 = .ok (.getfield 41, 3) := by decide +kernel
theorem dX8_ends_5 : decode cX8_ends 5 = .ok (.ifCond .ne 7, 3) := by decide +kernel
theorem dX8_ends_8 : decode cX8_ends 8 = .ok (.iconst 0, 1) := by decide +kernel
theorem dX8_ends_9 : decode cX8_ends 9 = .ok (.goto 4, 3) := by decide +kernel
theorem dX8_ends_12 : decode cX8_ends 12 = .ok (.iload_n 3, 1) := by decide +kernel
theorem dX8_ends_13 : decode cX8_ends 13 = .ok (.putfield 38, 3) := by decide +kernel
theorem dX8_ends_16 : decode cX8_ends 16 = .ok (.aload_n 0, 1) := by decide +kernel
theorem dX8_ends_17 : decode cX8_ends 17 = .ok (.getfield 41, 3) := by decide +kernel
theorem dX8_ends_20 : decode cX8_ends 20 = .ok (.ifCond .eq 39, 3) := by decide +kernel
theorem dX8_ends_23 : decode cX8_ends 23 = .ok (.aload_n 0, 1) := by decide +kernel
theorem dX8_ends_24 : decode cX8_ends 24 = .ok (.aload_n 0, 1) := by decide +kernel
theorem dX8_ends_25 : decode cX8_ends 25 = .ok (.getfield 41, 3) := by decide +kernel
theorem dX8_ends_28 : decode cX8_ends 28 = .ok (.putfield 54, 3) := by decide +kernel
theorem dX8_ends_31 : decode cX8_ends 31 = .ok (.aload_n 0, 1) := by decide +kernel
theorem dX8_ends_32 : decode cX8_ends 32 = .ok (.aload_n 0, 1) := by decide +kernel
theorem dX8_ends_33 : decode cX8_ends 33 = .ok (.getfield 44, 3) := by decide +kernel
theorem dX8_ends_36 : decode cX8_ends 36 = .ok (.putfield 57, 3) := by decide +kernel
theorem dX8_ends_39 : decode cX8_ends 39 = .ok (.aload_n 0, 1) := by decide +kernel
theorem dX8_ends_40 : decode cX8_ends 40 = .ok (.iload_n 2, 1) := by decide +kernel
theorem dX8_ends_41 : decode cX8_ends 41 = .ok (.putfield 60, 3) := by decide +kernel
theorem dX8_ends_44 : decode cX8_ends 44 = .ok (.aload_n 0, 1) := by decide +kernel
theorem dX8_ends_45 : decode cX8_ends 45 = .ok (.getfield 13, 3) := by decide +kernel
theorem dX8_ends_48 : decode cX8_ends 48 = .ok (.iconst 0, 1) := by decide +kernel
theorem dX8_ends_49 : decode cX8_ends 49 = .ok (.aload_n 0, 1) := by decide +kernel
theorem dX8_ends_50 : decode cX8_ends 50 = .ok (.getfield 9, 3) := by decide +kernel
theorem dX8_ends_53 : decode cX8_ends 53 = .ok (.iconst 0, 1) := by decide +kernel
theorem dX8_ends_54 : decode cX8_ends 54 = .ok (.invokestatic 47, 3) := by decide +kernel
theorem dX8_ends_57 : decode cX8_ends 57 = .ok (.iconst 0, 1) := by decide +kernel
theorem dX8_ends_58 : decode cX8_ends 58 = .ok (.ireturn, 1) := by decide +kernel
theorem dX8_ends_59 : decode cX8_ends 59 = .ok (.aload_n 0, 1) := by decide +kernel
theorem dX8_ends_60 : decode cX8_ends 60 = .ok (.invokevirtual 63, 3) := by decide +kernel
theorem dX8_ends_63 : decode cX8_ends 63 = .ok (.iload_n 1, 1) := by decide +kernel
theorem dX8_ends_64 : decode cX8_ends 64 = .ok (.ireturn, 1) := by decide +kernel
theorem dX8_reason_0 : decode cX8_reason 0 = .ok (.aload_n 0, 1) := by decide +kernel
theorem dX8_reason_1 : decode cX8_reason 1 = .ok (.iload_n 1, 1) := by decide +kernel
theorem dX8_reason_2 : decode cX8_reason 2 = .ok (.iconst 0, 1) := by decide +kernel
theorem dX8_reason_3 : decode cX8_reason 3 = .ok (.iconst 2, 1) := by decide +kernel
theorem dX8_reason_4 : decode cX8_reason 4 = .ok (.invokestatic 66, 3) := by decide +kernel
theorem dX8_reason_7 : decode cX8_reason 7 = .ok (.ifCond .ne 7, 3) := by decide +kernel
theorem dX8_reason_10 : decode cX8_reason 10 = .ok (.iconst 1, 1) := by decide +kernel
theorem dX8_reason_11 : decode cX8_reason 11 = .ok (.goto 15, 3) := by decide +kernel
theorem dX8_reason_14 : decode cX8_reason 14 = .ok (.aload_n 0, 1) := by decide +kernel
theorem dX8_reason_15 : decode cX8_reason 15 = .ok (.getfield 54, 3) := by decide +kernel
theorem dX8_reason_18 : decode cX8_reason 18 = .ok (.ifCond .ne 7, 3) := by decide +kernel
theorem dX8_reason_21 : decode cX8_reason 21 = .ok (.iconst 2, 1) := by decide +kernel
theorem dX8_reason_22 : decode cX8_reason 22 = .ok (.goto 4, 3) := by decide +kernel
theorem dX8_reason_25 : decode cX8_reason 25 = .ok (.iconst 0, 1) := by decide +kernel
theorem dX8_reason_26 : decode cX8_reason 26 = .ok (.putfield 38, 3) := by decide +kernel
theorem dX8_reason_29 : decode cX8_reason 29 = .ok (.aload_n 0, 1) := by decide +kernel
theorem dX8_reason_30 : decode cX8_reason 30 = .ok (.getfield 38, 3) := by decide +kernel
theorem dX8_reason_33 : decode cX8_reason 33 = .ok (.ifCond .eq 7, 3) := by decide +kernel
theorem dX8_reason_36 : decode cX8_reason 36 = .ok (.iconst 0, 1) := by decide +kernel
theorem dX8_reason_37 : decode cX8_reason 37 = .ok (.goto 30, 3) := by decide +kernel
theorem dX8_reason_40 : decode cX8_reason 40 = .ok (.iload_n 1, 1) := by decide +kernel
theorem dX8_reason_41 : decode cX8_reason 41 = .ok (.ifCond .ne 10, 3) := by decide +kernel
theorem dX8_reason_44 : decode cX8_reason 44 = .ok (.aload_n 0, 1) := by decide +kernel
theorem dX8_reason_45 : decode cX8_reason 45 = .ok (.getfield 54, 3) := by decide +kernel
theorem dX8_reason_48 : decode cX8_reason 48 = .ok (.goto 19, 3) := by decide +kernel
theorem dX8_reason_51 : decode cX8_reason 51 = .ok (.iload_n 1, 1) := by decide +kernel
theorem dX8_reason_52 : decode cX8_reason 52 = .ok (.iconst 1, 1) := by decide +kernel
theorem dX8_reason_53 : decode cX8_reason 53 = .ok (.if_icmp .ne 10, 3) := by decide +kernel
theorem dX8_reason_56 : decode cX8_reason 56 = .ok (.aload_n 0, 1) := by decide +kernel
theorem dX8_reason_57 : decode cX8_reason 57 = .ok (.getfield 57, 3) := by decide +kernel
theorem dX8_reason_60 : decode cX8_reason 60 = .ok (.goto 7, 3) := by decide +kernel
theorem dX8_reason_63 : decode cX8_reason 63 = .ok (.aload_n 0, 1) := by decide +kernel
theorem dX8_reason_64 : decode cX8_reason 64 = .ok (.getfield 60, 3) := by decide +kernel
theorem dX8_reason_67 : decode cX8_reason 67 = .ok (.ireturn, 1) := by decide +kernel
theorem dX8_undo_0 : decode cX8_undo 0 = .ok (.aload_n 0, 1) := by decide +kernel
theorem dX8_undo_1 : decode cX8_undo 1 = .ok (.aload_n 0, 1) := by decide +kernel
theorem dX8_undo_2 : decode cX8_undo 2 = .ok (.getfield 51, 3) := by decide +kernel
theorem dX8_undo_5 : decode cX8_undo 5 = .ok (.ifCond .ne 7, 3) := by decide +kernel
theorem dX8_undo_8 : decode cX8_undo 8 = .ok (.iconst 1, 1) := by decide +kernel
theorem dX8_undo_9 : decode cX8_undo 9 = .ok (.goto 4, 3) := by decide +kernel
theorem dX8_undo_12 : decode cX8_undo 12 = .ok (.iconst 0, 1) := by decide +kernel
theorem dX8_undo_13 : decode cX8_undo 13 = .ok (.putfield 38, 3) := by decide +kernel
theorem dX8_undo_16 : decode cX8_undo 16 = .ok (.aload_n 0, 1) := by decide +kernel
theorem dX8_undo_17 : decode cX8_undo 17 = .ok (.getfield 38, 3) := by decide +kernel
theorem dX8_undo_20 : decode cX8_undo 20 = .ok (.ifCond .eq 5, 3) := by decide +kernel
theorem dX8_undo_23 : decode cX8_undo 23 = .ok (.iconst 0, 1) := by decide +kernel
theorem dX8_undo_24 : decode cX8_undo 24 = .ok (.ireturn, 1) := by decide +kernel
theorem dX8_undo_25 : decode cX8_undo 25 = .ok (.aload_n 0, 1) := by decide +kernel
theorem dX8_undo_26 : decode cX8_undo 26 = .ok (.dup, 1) := by decide +kernel
theorem dX8_undo_27 : decode cX8_undo 27 = .ok (.getfield 51, 3) := by decide +kernel
theorem dX8_undo_30 : decode cX8_undo 30 = .ok (.iconst 1, 1) := by decide +kernel
theorem dX8_undo_31 : decode cX8_undo 31 = .ok (.isub, 1) := by decide +kernel
theorem dX8_undo_32 : decode cX8_undo 32 = .ok (.putfield 51, 3) := by decide +kernel
theorem dX8_undo_35 : decode cX8_undo 35 = .ok (.aload_n 0, 1) := by decide +kernel
theorem dX8_undo_36 : decode cX8_undo 36 = .ok (.getfield 19, 3) := by decide +kernel
theorem dX8_undo_39 : decode cX8_undo 39 = .ok (.aload_n 0, 1) := by decide +kernel
theorem dX8_undo_40 : decode cX8_undo 40 = .ok (.getfield 51, 3) := by decide +kernel
theorem dX8_undo_43 : decode cX8_undo 43 = .ok (.bipush 102, 2) := by decide +kernel
theorem dX8_undo_45 : decode cX8_undo 45 = .ok (.imul, 1) := by decide +kernel
theorem dX8_undo_46 : decode cX8_undo 46 = .ok (.aload_n 0, 1) := by decide +kernel
theorem dX8_undo_47 : decode cX8_undo 47 = .ok (.getfield 9, 3) := by decide +kernel
theorem dX8_undo_50 : decode cX8_undo 50 = .ok (.iconst 0, 1) := by decide +kernel
theorem dX8_undo_51 : decode cX8_undo 51 = .ok (.invokestatic 47, 3) := by decide +kernel
theorem dX8_undo_54 : decode cX8_undo 54 = .ok (.aload_n 0, 1) := by decide +kernel
theorem dX8_undo_55 : decode cX8_undo 55 = .ok (.getfield 51, 3) := by decide +kernel
theorem dX8_undo_58 : decode cX8_undo 58 = .ok (.ireturn, 1) := by decide +kernel
theorem dX8_save_0 : decode cX8_save 0 = .ok (.aload_n 0, 1) := by decide +kernel
theorem dX8_save_1 : decode cX8_save 1 = .ok (.iconst 0, 1) := by decide +kernel
theorem dX8_save_2 : decode cX8_save 2 = .ok (.putfield 38, 3) := by decide +kernel
theorem dX8_save_5 : decode cX8_save 5 = .ok (.aload_n 0, 1) := by decide +kernel
theorem dX8_save_6 : decode cX8_save 6 = .ok (.getfield 9, 3) := by decide +kernel
theorem dX8_save_9 : decode cX8_save 9 = .ok (.iconst 0, 1) := by decide +kernel
theorem dX8_save_10 : decode cX8_save 10 = .ok (.aload_n 0, 1) := by decide +kernel
theorem dX8_save_11 : decode cX8_save 11 = .ok (.getfield 16, 3) := by decide +kernel
theorem dX8_save_14 : decode cX8_save 14 = .ok (.iconst 0, 1) := by decide +kernel
theorem dX8_save_15 : decode cX8_save 15 = .ok (.invokestatic 47, 3) := by decide +kernel
theorem dX8_save_18 : decode cX8_save 18 = .ok (.aload_n 0, 1) := by decide +kernel
theorem dX8_save_19 : decode cX8_save 19 = .ok (.iconst 1, 1) := by decide +kernel
theorem dX8_save_20 : decode cX8_save 20 = .ok (.putfield 70, 3) := by decide +kernel
theorem dX8_save_23 : decode cX8_save 23 = .ok (.aload_n 0, 1) := by decide +kernel
theorem dX8_save_24 : decode cX8_save 24 = .ok (.getfield 9, 3) := by decide +kernel
theorem dX8_save_27 : decode cX8_save 27 = .ok (.iconst 0, 1) := by decide +kernel
theorem dX8_save_28 : decode cX8_save 28 = .ok (.iaload, 1) := by decide +kernel
theorem dX8_save_29 : decode cX8_save 29 = .ok (.ireturn, 1) := by decide +kernel
theorem dX8_restore_0 : decode cX8_restore 0 = .ok (.aload_n 0, 1) := by decide +kernel
theorem dX8_restore_1 : decode cX8_restore 1 = .ok (.aload_n 0, 1) := by decide +kernel
theorem dX8_restore_2 : decode cX8_restore 2 = .ok (.getfield 70, 3) := by decide +kernel
theorem dX8_restore_5 : decode cX8_restore 5 = .ok (.ifCond .eq 7, 3) := by decide +kernel
theorem dX8_restore_8 : decode cX8_restore 8 = .ok (.iconst 0, 1) := by decide +kernel
theorem dX8_restore_9 : decode cX8_restore 9 = .ok (.goto 4, 3) := by decide +kernel
theorem dX8_restore_12 : decode cX8_restore 12 = .ok (.iconst 1, 1) := by decide +kernel
theorem dX8_restore_13 : decode cX8_restore 13 = .ok (.putfield 38, 3) := by decide +kernel
theorem dX8_restore_16 : decode cX8_restore 16 = .ok (.aload_n 0, 1) := by decide +kernel
theorem dX8_restore_17 : decode cX8_restore 17 = .ok (.getfield 38, 3) := by decide +kernel
theorem dX8_restore_20 : decode cX8_restore 20 = .ok (.ifCond .eq 5, 3) := by decide +kernel
theorem dX8_restore_23 : decode cX8_restore 23 = .ok (.iconst 0, 1) := by decide +kernel
theorem dX8_restore_24 : decode cX8_restore 24 = .ok (.ireturn, 1) := by decide +kernel
theorem dX8_restore_25 : decode cX8_restore 25 = .ok (.aload_n 0, 1) := by decide +kernel
theorem dX8_restore_26 : decode cX8_restore 26 = .ok (.getfield 16, 3) := by decide +kernel
theorem dX8_restore_29 : decode cX8_restore 29 = .ok (.iconst 0, 1) := by decide +kernel
theorem dX8_restore_30 : decode cX8_restore 30 = .ok (.aload_n 0, 1) := by decide +kernel
theorem dX8_restore_31 : decode cX8_restore 31 = .ok (.getfield 9, 3) := by decide +kernel
theorem dX8_restore_34 : decode cX8_restore 34 = .ok (.iconst 0, 1) := by decide +kernel
theorem dX8_restore_35 : decode cX8_restore 35 = .ok (.invokestatic 47, 3) := by decide +kernel
theorem dX8_restore_38 : decode cX8_restore 38 = .ok (.aload_n 0, 1) := by decide +kernel
theorem dX8_restore_39 : decode cX8_restore 39 = .ok (.iconst 0, 1) := by decide +kernel
theorem dX8_restore_40 : decode cX8_restore 40 = .ok (.putfield 51, 3) := by decide +kernel
theorem dX8_restore_43 : decode cX8_restore 43 = .ok (.aload_n 0, 1) := by decide +kernel
theorem dX8_restore_44 : decode cX8_restore 44 = .ok (.getfield 9, 3) := by decide +kernel
theorem dX8_restore_47 : decode cX8_restore 47 = .ok (.iconst 0, 1) := by decide +kernel
theorem dX8_restore_48 : decode cX8_restore 48 = .ok (.iaload, 1) := by decide +kernel
theorem dX8_restore_49 : decode cX8_restore 49 = .ok (.ireturn, 1) := by decide +kernel
theorem dX8_isHouse_0 : decode cX8_isHouse 0 = .ok (.iload_n 1, 1) := by decide +kernel
theorem dX8_isHouse_1 : decode cX8_isHouse 1 = .ok (.iconst 0, 1) := by decide +kernel
theorem dX8_isHouse_2 : decode cX8_isHouse 2 = .ok (.aload_n 0, 1) := by decide +kernel
theorem dX8_isHouse_3 : decode cX8_isHouse 3 = .ok (.getfield 9, 3) := by decide +kernel
theorem dX8_isHouse_6 : decode cX8_isHouse 6 = .ok (.iconst 1, 1) := by decide +kernel
theorem dX8_isHouse_7 : decode cX8_isHouse 7 = .ok (.iaload, 1) := by decide +kernel
theorem dX8_isHouse_8 : decode cX8_isHouse 8 = .ok (.iconst 1, 1) := by decide +kernel
theorem dX8_isHouse_9 : decode cX8_isHouse 9 = .ok (.isub, 1) := by decide +kernel
theorem dX8_isHouse_10 : decode cX8_isHouse 10 = .ok (.invokestatic 66, 3) := by decide +kernel
theorem dX8_isHouse_13 : decode cX8_isHouse 13 = .ok (.ireturn, 1) := by decide +kernel
theorem dX8_of_0 : decode cX8_of 0 = .ok (.aload_n 0, 1) := by decide +kernel
theorem dX8_of_1 : decode cX8_of 1 = .ok (.getfield 9, 3) := by decide +kernel
theorem dX8_of_4 : decode cX8_of 4 = .ok (.bipush 14, 2) := by decide +kernel
theorem dX8_of_6 : decode cX8_of 6 = .ok (.bipush 9, 2) := by decide +kernel
theorem dX8_of_8 : decode cX8_of 8 = .ok (.iload_n 1, 1) := by decide +kernel
theorem dX8_of_9 : decode cX8_of 9 = .ok (.imul, 1) := by decide +kernel
theorem dX8_of_10 : decode cX8_of 10 = .ok (.iadd, 1) := by decide +kernel
theorem dX8_of_11 : decode cX8_of 11 = .ok (.iload_n 2, 1) := by decide +kernel
theorem dX8_of_12 : decode cX8_of 12 = .ok (.iadd, 1) := by decide +kernel
theorem dX8_of_13 : decode cX8_of 13 = .ok (.iaload, 1) := by decide +kernel
theorem dX8_of_14 : decode cX8_of 14 = .ok (.ireturn, 1) := by decide +kernel
theorem dX8_becomes_0 : decode cX8_becomes 0 = .ok (.aload_n 0, 1) := by decide +kernel
theorem dX8_becomes_1 : decode cX8_becomes 1 = .ok (.getfield 9, 3) := by decide +kernel
theorem dX8_becomes_4 : decode cX8_becomes 4 = .ok (.bipush 14, 2) := by decide +kernel
theorem dX8_becomes_6 : decode cX8_becomes 6 = .ok (.bipush 9, 2) := by decide +kernel
theorem dX8_becomes_8 : decode cX8_becomes 8 = .ok (.iload_n 1, 1) := by decide +kernel
theorem dX8_becomes_9 : decode cX8_becomes 9 = .ok (.imul, 1) := by decide +kernel
theorem dX8_becomes_10 : decode cX8_becomes 10 = .ok (.iadd, 1) := by decide +kernel
theorem dX8_becomes_11 : decode cX8_becomes 11 = .ok (.iload_n 2, 1) := by decide +kernel
theorem dX8_becomes_12 : decode cX8_becomes 12 = .ok (.iadd, 1) := by decide +kernel
theorem dX8_becomes_13 : decode cX8_becomes 13 = .ok (.iload_n 3, 1) := by decide +kernel
theorem dX8_becomes_14 : decode cX8_becomes 14 = .ok (.iastore, 1) := by decide +kernel
theorem dX8_becomes_15 : decode cX8_becomes 15 = .ok (.return_, 1) := by decide +kernel
theorem dX8_isCarrier_0 : decode cX8_isCarrier 0 = .ok (.iload_n 1, 1) := by decide +kernel
theorem dX8_isCarrier_1 : decode cX8_isCarrier 1 = .ok (.iconst 0, 1) := by decide +kernel
theorem dX8_isCarrier_2 : decode cX8_isCarrier 2 = .ok (.aload_n 0, 1) := by decide +kernel
theorem dX8_isCarrier_3 : decode cX8_isCarrier 3 = .ok (.getfield 9, 3) := by decide +kernel
theorem dX8_isCarrier_6 : decode cX8_isCarrier 6 = .ok (.iconst 2, 1) := by decide +kernel
theorem dX8_isCarrier_7 : decode cX8_isCarrier 7 = .ok (.iaload, 1) := by decide +kernel
theorem dX8_isCarrier_8 : decode cX8_isCarrier 8 = .ok (.iconst 1, 1) := by decide +kernel
theorem dX8_isCarrier_9 : decode cX8_isCarrier 9 = .ok (.isub, 1) := by decide +kernel
theorem dX8_isCarrier_10 : decode cX8_isCarrier 10 = .ok (.invokestatic 66, 3) := by decide +kernel
theorem dX8_isCarrier_13 : decode cX8_isCarrier 13 = .ok (.ireturn, 1) := by decide +kernel
theorem dX8_ofCarrier_0 : decode cX8_ofCarrier 0 = .ok (.aload_n 0, 1) := by decide +kernel
theorem dX8_ofCarrier_1 : decode cX8_ofCarrier 1 = .ok (.getfield 9, 3) := by decide +kernel
theorem dX8_ofCarrier_4 : decode cX8_ofCarrier 4 = .ok (.bipush 86, 2) := by decide +kernel
theorem dX8_ofCarrier_6 : decode cX8_ofCarrier 6 = .ok (.iconst 4, 1) := by decide +kernel
theorem dX8_ofCarrier_7 : decode cX8_ofCarrier 7 = .ok (.iload_n 1, 1) := by decide +kernel
theorem dX8_ofCarrier_8 : decode cX8_ofCarrier 8 = .ok (.imul, 1) := by decide +kernel
theorem dX8_ofCarrier_9 : decode cX8_ofCarrier 9 = .ok (.iadd, 1) := by decide +kernel
theorem dX8_ofCarrier_10 : decode cX8_ofCarrier 10 = .ok (.iload_n 2, 1) := by decide +kernel
theorem dX8_ofCarrier_11 : decode cX8_ofCarrier 11 = .ok (.iadd, 1) := by decide +kernel
theorem dX8_ofCarrier_12 : decode cX8_ofCarrier 12 = .ok (.iaload, 1) := by decide +kernel
theorem dX8_ofCarrier_13 : decode cX8_ofCarrier 13 = .ok (.ireturn, 1) := by decide +kernel
theorem dX8_carrierBecomes_0 : decode cX8_carrierBecomes 0 = .ok (.aload_n 0, 1) := by decide +kernel
theorem dX8_carrierBecomes_1 : decode cX8_carrierBecomes 1 = .ok (.getfield 9, 3) := by decide +kernel
theorem dX8_carrierBecomes_4 : decode cX8_carrierBecomes 4 = .ok (.bipush 86, 2) := by decide +kernel
theorem dX8_carrierBecomes_6 : decode cX8_carrierBecomes 6 = .ok (.iconst 4, 1) := by decide +kernel
theorem dX8_carrierBecomes_7 : decode cX8_carrierBecomes 7 = .ok (.iload_n 1, 1) := by decide +kernel
theorem dX8_carrierBecomes_8 : decode cX8_carrierBecomes 8 = .ok (.imul, 1) := by decide +kernel
theorem dX8_carrierBecomes_9 : decode cX8_carrierBecomes 9 = .ok (.iadd, 1) := by decide +kernel
theorem dX8_carrierBecomes_10 : decode cX8_carrierBecomes 10 = .ok (.iload_n 2, 1) := by decide +kernel
theorem dX8_carrierBecomes_11 : decode cX8_carrierBecomes 11 = .ok (.iadd, 1) := by decide +kernel
theorem dX8_carrierBecomes_12 : decode cX8_carrierBecomes 12 = .ok (.iload_n 3, 1) := by decide +kernel
theorem dX8_carrierBecomes_13 : decode cX8_carrierBecomes 13 = .ok (.iastore, 1) := by decide +kernel
theorem dX8_carrierBecomes_14 : decode cX8_carrierBecomes 14 = .ok (.return_, 1) := by decide +kernel
theorem dX8_lets_0 : decode cX8_lets 0 = .ok (.aload_n 0, 1) := by decide +kernel
theorem dX8_lets_1 : decode cX8_lets 1 = .ok (.iload_n 1, 1) := by decide +kernel
theorem dX8_lets_2 : decode cX8_lets 2 = .ok (.iconst 1, 1) := by decide +kernel
theorem dX8_lets_3 : decode cX8_lets 3 = .ok (.invokevirtual 74, 3) := by decide +kernel
theorem dX8_lets_6 : decode cX8_lets 6 = .ok (.ifCond .eq 14, 3) := by decide +kernel
theorem dX8_lets_9 : decode cX8_lets 9 = .ok (.aload_n 0, 1) := by decide +kernel
theorem dX8_lets_10 : decode cX8_lets 10 = .ok (.iload_n 1, 1) := by decide +kernel
theorem dX8_lets_11 : decode cX8_lets 11 = .ok (.bipush 7, 2) := by decide +kernel
theorem dX8_lets_13 : decode cX8_lets 13 = .ok (.invokevirtual 74, 3) := by decide +kernel
theorem dX8_lets_16 : decode cX8_lets 16 = .ok (.iconst 1, 1) := by decide +kernel
theorem dX8_lets_17 : decode cX8_lets 17 = .ok (.if_icmp .ne 8, 3) := by decide +kernel
theorem dX8_lets_20 : decode cX8_lets 20 = .ok (.bipush 99, 2) := by decide +kernel
theorem dX8_lets_22 : decode cX8_lets 22 = .ok (.goto 30, 3) := by decide +kernel
theorem dX8_lets_25 : decode cX8_lets 25 = .ok (.aload_n 0, 1) := by decide +kernel
theorem dX8_lets_26 : decode cX8_lets 26 = .ok (.iload_n 1, 1) := by decide +kernel
theorem dX8_lets_27 : decode cX8_lets 27 = .ok (.iconst 1, 1) := by decide +kernel
theorem dX8_lets_28 : decode cX8_lets 28 = .ok (.invokevirtual 74, 3) := by decide +kernel
theorem dX8_lets_31 : decode cX8_lets 31 = .ok (.iconst 1, 1) := by decide +kernel
theorem dX8_lets_32 : decode cX8_lets 32 = .ok (.if_icmp .ne 19, 3) := by decide +kernel
theorem dX8_lets_35 : decode cX8_lets 35 = .ok (.iconst 0, 1) := by decide +kernel
theorem dX8_lets_36 : decode cX8_lets 36 = .ok (.iconst 2, 1) := by decide +kernel
theorem dX8_lets_37 : decode cX8_lets 37 = .ok (.aload_n 0, 1) := by decide +kernel
theorem dX8_lets_38 : decode cX8_lets 38 = .ok (.iload_n 1, 1) := by decide +kernel
theorem dX8_lets_39 : decode cX8_lets 39 = .ok (.bipush 6, 2) := by decide +kernel
theorem dX8_lets_41 : decode cX8_lets 41 = .ok (.invokevirtual 74, 3) := by decide +kernel
theorem dX8_lets_44 : decode cX8_lets 44 = .ok (.isub, 1) := by decide +kernel
theorem dX8_lets_45 : decode cX8_lets 45 = .ok (.invokestatic 78, 3) := by decide +kernel
theorem dX8_lets_48 : decode cX8_lets 48 = .ok (.goto 4, 3) := by decide +kernel
theorem dX8_lets_51 : decode cX8_lets 51 = .ok (.iconst 0, 1) := by decide +kernel
theorem dX8_lets_52 : decode cX8_lets 52 = .ok (.ireturn, 1) := by decide +kernel
theorem dX8_tiredBy_0 : decode cX8_tiredBy 0 = .ok (.iconst 1, 1) := by decide +kernel
theorem dX8_tiredBy_1 : decode cX8_tiredBy 1 = .ok (.bipush 6, 2) := by decide +kernel
theorem dX8_tiredBy_3 : decode cX8_tiredBy 3 = .ok (.aload_n 0, 1) := by decide +kernel
theorem dX8_tiredBy_4 : decode cX8_tiredBy 4 = .ok (.iload_n 2, 1) := by decide +kernel
theorem dX8_tiredBy_5 : decode cX8_tiredBy 5 = .ok (.iconst 0, 1) := by decide +kernel
theorem dX8_tiredBy_6 : decode cX8_tiredBy 6 = .ok (.invokevirtual 74, 3) := by decide +kernel
theorem dX8_tiredBy_9 : decode cX8_tiredBy 9 = .ok (.imul, 1) := by decide +kernel
theorem dX8_tiredBy_10 : decode cX8_tiredBy 10 = .ok (.iconst 5, 1) := by decide +kernel
theorem dX8_tiredBy_11 : decode cX8_tiredBy 11 = .ok (.aload_n 0, 1) := by decide +kernel
theorem dX8_tiredBy_12 : decode cX8_tiredBy 12 = .ok (.iload_n 1, 1) := by decide +kernel
theorem dX8_tiredBy_13 : decode cX8_tiredBy 13 = .ok (.iconst 0, 1) := by decide +kernel
theorem dX8_tiredBy_14 : decode cX8_tiredBy 14 = .ok (.invokevirtual 83, 3) := by decide +kernel
theorem dX8_tiredBy_17 : decode cX8_tiredBy 17 = .ok (.iadd, 1) := by decide +kernel
theorem dX8_tiredBy_18 : decode cX8_tiredBy 18 = .ok (.idiv, 1) := by decide +kernel
theorem dX8_tiredBy_19 : decode cX8_tiredBy 19 = .ok (.iadd, 1) := by decide +kernel
theorem dX8_tiredBy_20 : decode cX8_tiredBy 20 = .ok (.ireturn, 1) := by decide +kernel
theorem dX8_canBy_0 : decode cX8_canBy 0 = .ok (.bipush 30, 2) := by decide +kernel
theorem dX8_canBy_2 : decode cX8_canBy 2 = .ok (.aload_n 0, 1) := by decide +kernel
theorem dX8_canBy_3 : decode cX8_canBy 3 = .ok (.iload_n 1, 1) := by decide +kernel
theorem dX8_canBy_4 : decode cX8_canBy 4 = .ok (.iconst 1, 1) := by decide +kernel
theorem dX8_canBy_5 : decode cX8_canBy 5 = .ok (.invokevirtual 83, 3) := by decide +kernel
theorem dX8_canBy_8 : decode cX8_canBy 8 = .ok (.isub, 1) := by decide +kernel
theorem dX8_canBy_9 : decode cX8_canBy 9 = .ok (.aload_n 0, 1) := by decide +kernel
theorem dX8_canBy_10 : decode cX8_canBy 10 = .ok (.iload_n 1, 1) := by decide +kernel
theorem dX8_canBy_11 : decode cX8_canBy 11 = .ok (.iload_n 2, 1) := by decide +kernel
theorem dX8_canBy_12 : decode cX8_canBy 12 = .ok (.invokevirtual 86, 3) := by decide +kernel
theorem dX8_canBy_15 : decode cX8_canBy 15 = .ok (.idiv, 1) := by decide +kernel
theorem dX8_canBy_16 : decode cX8_canBy 16 = .ok (.ireturn, 1) := by decide +kernel
theorem dX8_house_0 : decode cX8_house 0 = .ok (.aload_n 0, 1) := by decide +kernel
theorem dX8_house_1 : decode cX8_house 1 = .ok (.invokevirtual 89, 3) := by decide +kernel
theorem dX8_house_4 : decode cX8_house 4 = .ok (.aload_n 0, 1) := by decide +kernel
theorem dX8_house_5 : decode cX8_house 5 = .ok (.getfield 9, 3) := by decide +kernel
theorem dX8_house_8 : decode cX8_house 8 = .ok (.iconst 1, 1) := by decide +kernel
theorem dX8_house_9 : decode cX8_house 9 = .ok (.iaload, 1) := by decide +kernel
theorem dX8_house_10 : decode cX8_house 10 = .ok (.istore_n 3, 1) := by decide +kernel
theorem dX8_house_11 : decode cX8_house 11 = .ok (.aload_n 0, 1) := by decide +kernel
theorem dX8_house_12 : decode cX8_house 12 = .ok (.iload_n 1, 1) := by decide +kernel
theorem dX8_house_13 : decode cX8_house 13 = .ok (.iconst 0, 1) := by decide +kernel
theorem dX8_house_14 : decode cX8_house 14 = .ok (.bipush 9, 2) := by decide +kernel
theorem dX8_house_16 : decode cX8_house 16 = .ok (.invokestatic 66, 3) := by decide +kernel
theorem dX8_house_19 : decode cX8_house 19 = .ok (.ifCond .eq 12, 3) := by decide +kernel
theorem dX8_house_22 : decode cX8_house 22 = .ok (.iload_n 2, 1) := by decide +kernel
theorem dX8_house_23 : decode cX8_house 23 = .ok (.iconst 0, 1) := by decide +kernel
theorem dX8_house_24 : decode cX8_house 24 = .ok (.iconst 2, 1) := by decide +kernel
theorem dX8_house_25 : decode cX8_house 25 = .ok (.invokestatic 66, 3) := by decide +kernel
theorem dX8_house_28 : decode cX8_house 28 = .ok (.ifCond .ne 7, 3) := by decide +kernel
theorem dX8_house_31 : decode cX8_house 31 = .ok (.iconst 1, 1) := by decide +kernel
theorem dX8_house_32 : decode cX8_house 32 = .ok (.goto 4, 3) := by decide +kernel
theorem dX8_house_35 : decode cX8_house 35 = .ok (.iconst 0, 1) := by decide +kernel
theorem dX8_house_36 : decode cX8_house 36 = .ok (.iconst 1, 1) := by decide +kernel
theorem dX8_house_37 : decode cX8_house 37 = .ok (.iconst 0, 1) := by decide +kernel
theorem dX8_house_38 : decode cX8_house 38 = .ok (.invokevirtual 92, 3) := by decide +kernel
theorem dX8_house_41 : decode cX8_house 41 = .ok (.aload_n 0, 1) := by decide +kernel
theorem dX8_house_42 : decode cX8_house 42 = .ok (.iload_n 3, 1) := by decide +kernel
theorem dX8_house_43 : decode cX8_house 43 = .ok (.bipush 8, 2) := by decide +kernel
theorem dX8_house_45 : decode cX8_house 45 = .ok (.if_icmp .ne 7, 3) := by decide +kernel
theorem dX8_house_48 : decode cX8_house 48 = .ok (.iconst 1, 1) := by decide +kernel
theorem dX8_house_49 : decode cX8_house 49 = .ok (.goto 4, 3) := by decide +kernel
theorem dX8_house_52 : decode cX8_house 52 = .ok (.iconst 0, 1) := by decide +kernel
theorem dX8_house_53 : decode cX8_house 53 = .ok (.iconst 2, 1) := by decide +kernel
theorem dX8_house_54 : decode cX8_house 54 = .ok (.bipush 8, 2) := by decide +kernel
theorem dX8_house_56 : decode cX8_house 56 = .ok (.invokevirtual 92, 3) := by decide +kernel
theorem dX8_house_59 : decode cX8_house 59 = .ok (.aload_n 0, 1) := by decide +kernel
theorem dX8_house_60 : decode cX8_house 60 = .ok (.getfield 41, 3) := by decide +kernel
theorem dX8_house_63 : decode cX8_house 63 = .ok (.ifCond .ne 27, 3) := by decide +kernel
theorem dX8_house_66 : decode cX8_house 66 = .ok (.aload_n 0, 1) := by decide +kernel
theorem dX8_house_67 : decode cX8_house 67 = .ok (.iload_n 3, 1) := by decide +kernel
theorem dX8_house_68 : decode cX8_house 68 = .ok (.iconst 0, 1) := by decide +kernel
theorem dX8_house_69 : decode cX8_house 69 = .ok (.iload_n 1, 1) := by decide +kernel
theorem dX8_house_70 : decode cX8_house 70 = .ok (.invokevirtual 96, 3) := by decide +kernel
theorem dX8_house_73 : decode cX8_house 73 = .ok (.aload_n 0, 1) := by decide +kernel
theorem dX8_house_74 : decode cX8_house 74 = .ok (.iload_n 3, 1) := by decide +kernel
theorem dX8_house_75 : decode cX8_house 75 = .ok (.iconst 1, 1) := by decide +kernel
theorem dX8_house_76 : decode cX8_house 76 = .ok (.iload_n 2, 1) := by decide +kernel
theorem dX8_house_77 : decode cX8_house 77 = .ok (.invokevirtual 96, 3) := by decide +kernel
theorem dX8_house_80 : decode cX8_house 80 = .ok (.aload_n 0, 1) := by decide +kernel
theorem dX8_house_81 : decode cX8_house 81 = .ok (.getfield 9, 3) := by decide +kernel
theorem dX8_house_84 : decode cX8_house 84 = .ok (.iconst 1, 1) := by decide +kernel
theorem dX8_house_85 : decode cX8_house 85 = .ok (.dup2, 1) := by decide +kernel
theorem dX8_house_86 : decode cX8_house 86 = .ok (.iaload, 1) := by decide +kernel
theorem dX8_house_87 : decode cX8_house 87 = .ok (.iconst 1, 1) := by decide +kernel
theorem dX8_house_88 : decode cX8_house 88 = .ok (.iadd, 1) := by decide +kernel
theorem dX8_house_89 : decode cX8_house 89 = .ok (.iastore, 1) := by decide +kernel
theorem dX8_house_90 : decode cX8_house 90 = .ok (.aload_n 0, 1) := by decide +kernel
theorem dX8_house_91 : decode cX8_house 91 = .ok (.iload_n 3, 1) := by decide +kernel
theorem dX8_house_92 : decode cX8_house 92 = .ok (.iconst 0, 1) := by decide +kernel
theorem dX8_house_93 : decode cX8_house 93 = .ok (.iconst 1, 1) := by decide +kernel
theorem dX8_house_94 : decode cX8_house 94 = .ok (.invokevirtual 100, 3) := by decide +kernel
theorem dX8_house_97 : decode cX8_house 97 = .ok (.ireturn, 1) := by decide +kernel
theorem dX8_order_0 : decode cX8_order 0 = .ok (.aload_n 0, 1) := by decide +kernel
theorem dX8_order_1 : decode cX8_order 1 = .ok (.invokevirtual 89, 3) := by decide +kernel
theorem dX8_order_4 : decode cX8_order 4 = .ok (.iconst 0, 1) := by decide +kernel
theorem dX8_order_5 : decode cX8_order 5 = .ok (.istore_n 3, 1) := by decide +kernel
theorem dX8_order_6 : decode cX8_order 6 = .ok (.aload_n 0, 1) := by decide +kernel
theorem dX8_order_7 : decode cX8_order 7 = .ok (.aload_n 0, 1) := by decide +kernel
theorem dX8_order_8 : decode cX8_order 8 = .ok (.iload_n 1, 1) := by decide +kernel
theorem dX8_order_9 : decode cX8_order 9 = .ok (.invokevirtual 104, 3) := by decide +kernel
theorem dX8_order_12 : decode cX8_order 12 = .ok (.ifCond .ne 7, 3) := by decide +kernel
theorem dX8_order_15 : decode cX8_order 15 = .ok (.iconst 1, 1) := by decide +kernel
theorem dX8_order_16 : decode cX8_order 16 = .ok (.goto 4, 3) := by decide +kernel
theorem dX8_order_19 : decode cX8_order 19 = .ok (.iconst 0, 1) := by decide +kernel
theorem dX8_order_20 : decode cX8_order 20 = .ok (.iconst 3, 1) := by decide +kernel
theorem dX8_order_21 : decode cX8_order 21 = .ok (.iload_n 1, 1) := by decide +kernel
theorem dX8_order_22 : decode cX8_order 22 = .ok (.invokevirtual 92, 3) := by decide +kernel
theorem dX8_order_25 : decode cX8_order 25 = .ok (.aload_n 0, 1) := by decide +kernel
theorem dX8_order_26 : decode cX8_order 26 = .ok (.iload_n 2, 1) := by decide +kernel
theorem dX8_order_27 : decode cX8_order 27 = .ok (.iconst 0, 1) := by decide +kernel
theorem dX8_order_28 : decode cX8_order 28 = .ok (.iconst 4, 1) := by decide +kernel
theorem dX8_order_29 : decode cX8_order 29 = .ok (.invokestatic 66, 3) := by decide +kernel
theorem dX8_order_32 : decode cX8_order 32 = .ok (.ifCond .ne 7, 3) := by decide +kernel
theorem dX8_order_35 : decode cX8_order 35 = .ok (.iconst 1, 1) := by decide +kernel
theorem dX8_order_36 : decode cX8_order 36 = .ok (.goto 4, 3) := by decide +kernel
theorem dX8_order_39 : decode cX8_order 39 = .ok (.iconst 0, 1) := by decide +kernel
theorem dX8_order_40 : decode cX8_order 40 = .ok (.iconst 1, 1) := by decide +kernel
theorem dX8_order_41 : decode cX8_order 41 = .ok (.iconst 0, 1) := by decide +kernel
theorem dX8_order_42 : decode cX8_order 42 = .ok (.invokevirtual 92, 3) := by decide +kernel
theorem dX8_order_45 : decode cX8_order 45 = .ok (.aload_n 0, 1) := by decide +kernel
theorem dX8_order_46 : decode cX8_order 46 = .ok (.getfield 41, 3) := by decide +kernel
theorem dX8_order_49 : decode cX8_order 49 = .ok (.ifCond .ne 17, 3) := by decide +kernel
theorem dX8_order_52 : decode cX8_order 52 = .ok (.aload_n 0, 1) := by decide +kernel
theorem dX8_order_53 : decode cX8_order 53 = .ok (.iload_n 1, 1) := by decide +kernel
theorem dX8_order_54 : decode cX8_order 54 = .ok (.iconst 2, 1) := by decide +kernel
theorem dX8_order_55 : decode cX8_order 55 = .ok (.invokevirtual 74, 3) := by decide +kernel
theorem dX8_order_58 : decode cX8_order 58 = .ok (.istore_n 3, 1) := by decide +kernel
theorem dX8_order_59 : decode cX8_order 59 = .ok (.aload_n 0, 1) := by decide +kernel
theorem dX8_order_60 : decode cX8_order 60 = .ok (.iload_n 1, 1) := by decide +kernel
theorem dX8_order_61 : decode cX8_order 61 = .ok (.iconst 2, 1) := by decide +kernel
theorem dX8_order_62 : decode cX8_order 62 = .ok (.iload_n 2, 1) := by decide +kernel
theorem dX8_order_63 : decode cX8_order 63 = .ok (.invokevirtual 96, 3) := by decide +kernel
theorem dX8_order_66 : decode cX8_order 66 = .ok (.aload_n 0, 1) := by decide +kernel
theorem dX8_order_67 : decode cX8_order 67 = .ok (.iload_n 3, 1) := by decide +kernel
theorem dX8_order_68 : decode cX8_order 68 = .ok (.iconst 0, 1) := by decide +kernel
theorem dX8_order_69 : decode cX8_order 69 = .ok (.iconst 1, 1) := by decide +kernel
theorem dX8_order_70 : decode cX8_order 70 = .ok (.invokevirtual 100, 3) := by decide +kernel
theorem dX8_order_73 : decode cX8_order 73 = .ok (.ireturn, 1) := by decide +kernel
theorem dX8_carrier_0 : decode cX8_carrier 0 = .ok (.aload_n 0, 1) := by decide +kernel
theorem dX8_carrier_1 : decode cX8_carrier 1 = .ok (.invokevirtual 89, 3) := by decide +kernel
theorem dX8_carrier_4 : decode cX8_carrier 4 = .ok (.aload_n 0, 1) := by decide +kernel
theorem dX8_carrier_5 : decode cX8_carrier 5 = .ok (.getfield 9, 3) := by decide +kernel
theorem dX8_carrier_8 : decode cX8_carrier 8 = .ok (.iconst 2, 1) := by decide +kernel
theorem dX8_carrier_9 : decode cX8_carrier 9 = .ok (.iaload, 1) := by decide +kernel
theorem dX8_carrier_10 : decode cX8_carrier 10 = .ok (.istore_n 2, 1) := by decide +kernel
theorem dX8_carrier_11 : decode cX8_carrier 11 = .ok (.aload_n 0, 1) := by decide +kernel
theorem dX8_carrier_12 : decode cX8_carrier 12 = .ok (.iload_n 1, 1) := by decide +kernel
theorem dX8_carrier_13 : decode cX8_carrier 13 = .ok (.iconst 1, 1) := by decide +kernel
theorem dX8_carrier_14 : decode cX8_carrier 14 = .ok (.bipush 9, 2) := by decide +kernel
theorem dX8_carrier_16 : decode cX8_carrier 16 = .ok (.invokestatic 66, 3) := by decide +kernel
theorem dX8_carrier_19 : decode cX8_carrier 19 = .ok (.ifCond .ne 7, 3) := by decide +kernel
theorem dX8_carrier_22 : decode cX8_carrier 22 = .ok (.iconst 1, 1) := by decide +kernel
theorem dX8_carrier_23 : decode cX8_carrier 23 = .ok (.goto 4, 3) := by decide +kernel
theorem dX8_carrier_26 : decode cX8_carrier 26 = .ok (.iconst 0, 1) := by decide +kernel
theorem dX8_carrier_27 : decode cX8_carrier 27 = .ok (.iconst 1, 1) := by decide +kernel
theorem dX8_carrier_28 : decode cX8_carrier 28 = .ok (.iconst 0, 1) := by decide +kernel
theorem dX8_carrier_29 : decode cX8_carrier 29 = .ok (.invokevirtual 92, 3) := by decide +kernel
theorem dX8_carrier_32 : decode cX8_carrier 32 = .ok (.aload_n 0, 1) := by decide +kernel
theorem dX8_carrier_33 : decode cX8_carrier 33 = .ok (.iload_n 2, 1) := by decide +kernel
theorem dX8_carrier_34 : decode cX8_carrier 34 = .ok (.iconst 4, 1) := by decide +kernel
theorem dX8_carrier_35 : decode cX8_carrier 35 = .ok (.if_icmp .ne 7, 3) := by decide +kernel
theorem dX8_carrier_38 : decode cX8_carrier 38 = .ok (.iconst 1, 1) := by decide +kernel
theorem dX8_carrier_39 : decode cX8_carrier 39 = .ok (.goto 4, 3) := by decide +kernel
theorem dX8_carrier_42 : decode cX8_carrier 42 = .ok (.iconst 0, 1) := by decide +kernel
theorem dX8_carrier_43 : decode cX8_carrier 43 = .ok (.iconst 2, 1) := by decide +kernel
theorem dX8_carrier_44 : decode cX8_carrier 44 = .ok (.iconst 4, 1) := by decide +kernel
theorem dX8_carrier_45 : decode cX8_carrier 45 = .ok (.invokevirtual 92, 3) := by decide +kernel
theorem dX8_carrier_48 : decode cX8_carrier 48 = .ok (.aload_n 0, 1) := by decide +kernel
theorem dX8_carrier_49 : decode cX8_carrier 49 = .ok (.getfield 41, 3) := by decide +kernel
theorem dX8_carrier_52 : decode cX8_carrier 52 = .ok (.ifCond .ne 20, 3) := by decide +kernel
theorem dX8_carrier_55 : decode cX8_carrier 55 = .ok (.aload_n 0, 1) := by decide +kernel
theorem dX8_carrier_56 : decode cX8_carrier 56 = .ok (.iload_n 2, 1) := by decide +kernel
theorem dX8_carrier_57 : decode cX8_carrier 57 = .ok (.iconst 0, 1) := by decide +kernel
theorem dX8_carrier_58 : decode cX8_carrier 58 = .ok (.iload_n 1, 1) := by decide +kernel
theorem dX8_carrier_59 : decode cX8_carrier 59 = .ok (.invokevirtual 108, 3) := by decide +kernel
theorem dX8_carrier_62 : decode cX8_carrier 62 = .ok (.aload_n 0, 1) := by decide +kernel
theorem dX8_carrier_63 : decode cX8_carrier 63 = .ok (.getfield 9, 3) := by decide +kernel
theorem dX8_carrier_66 : decode cX8_carrier 66 = .ok (.iconst 2, 1) := by decide +kernel
theorem dX8_carrier_67 : decode cX8_carrier 67 = .ok (.dup2, 1) := by decide +kernel
theorem dX8_carrier_68 : decode cX8_carrier 68 = .ok (.iaload, 1) := by decide +kernel
theorem dX8_carrier_69 : decode cX8_carrier 69 = .ok (.iconst 1, 1) := by decide +kernel
theorem dX8_carrier_70 : decode cX8_carrier 70 = .ok (.iadd, 1) := by decide +kernel
theorem dX8_carrier_71 : decode cX8_carrier 71 = .ok (.iastore, 1) := by decide +kernel
theorem dX8_carrier_72 : decode cX8_carrier 72 = .ok (.aload_n 0, 1) := by decide +kernel
theorem dX8_carrier_73 : decode cX8_carrier 73 = .ok (.iload_n 2, 1) := by decide +kernel
theorem dX8_carrier_74 : decode cX8_carrier 74 = .ok (.iconst 0, 1) := by decide +kernel
theorem dX8_carrier_75 : decode cX8_carrier 75 = .ok (.iconst 1, 1) := by decide +kernel
theorem dX8_carrier_76 : decode cX8_carrier 76 = .ok (.invokevirtual 100, 3) := by decide +kernel
theorem dX8_carrier_79 : decode cX8_carrier 79 = .ok (.ireturn, 1) := by decide +kernel
theorem dX8_houseOf_0 : decode cX8_houseOf 0 = .ok (.aload_n 0, 1) := by decide +kernel
theorem dX8_houseOf_1 : decode cX8_houseOf 1 = .ok (.aload_n 0, 1) := by decide +kernel
theorem dX8_houseOf_2 : decode cX8_houseOf 2 = .ok (.iload_n 1, 1) := by decide +kernel
theorem dX8_houseOf_3 : decode cX8_houseOf 3 = .ok (.invokevirtual 104, 3) := by decide +kernel
theorem dX8_houseOf_6 : decode cX8_houseOf 6 = .ok (.ifCond .ne 7, 3) := by decide +kernel
theorem dX8_houseOf_9 : decode cX8_houseOf 9 = .ok (.iconst 1, 1) := by decide +kernel
theorem dX8_houseOf_10 : decode cX8_houseOf 10 = .ok (.goto 18, 3) := by decide +kernel
theorem dX8_houseOf_13 : decode cX8_houseOf 13 = .ok (.iload_n 2, 1) := by decide +kernel
theorem dX8_houseOf_14 : decode cX8_houseOf 14 = .ok (.iconst 0, 1) := by decide +kernel
theorem dX8_houseOf_15 : decode cX8_houseOf 15 = .ok (.bipush 7, 2) := by decide +kernel
theorem dX8_houseOf_17 : decode cX8_houseOf 17 = .ok (.invokestatic 66, 3) := by decide +kernel
theorem dX8_houseOf_20 : decode cX8_houseOf 20 = .ok (.ifCond .ne 7, 3) := by decide +kernel
theorem dX8_houseOf_23 : decode cX8_houseOf 23 = .ok (.iconst 2, 1) := by decide +kernel
theorem dX8_houseOf_24 : decode cX8_houseOf 24 = .ok (.goto 4, 3) := by decide +kernel
theorem dX8_houseOf_27 : decode cX8_houseOf 27 = .ok (.iconst 0, 1) := by decide +kernel
theorem dX8_houseOf_28 : decode cX8_houseOf 28 = .ok (.putfield 38, 3) := by decide +kernel
theorem dX8_houseOf_31 : decode cX8_houseOf 31 = .ok (.aload_n 0, 1) := by decide +kernel
theorem dX8_houseOf_32 : decode cX8_houseOf 32 = .ok (.getfield 38, 3) := by decide +kernel
theorem dX8_houseOf_35 : decode cX8_houseOf 35 = .ok (.ifCond .eq 5, 3) := by decide +kernel
theorem dX8_houseOf_38 : decode cX8_houseOf 38 = .ok (.iconst 0, 1) := by decide +kernel
theorem dX8_houseOf_39 : decode cX8_houseOf 39 = .ok (.ireturn, 1) := by decide +kernel
theorem dX8_houseOf_40 : decode cX8_houseOf 40 = .ok (.iload_n 2, 1) := by decide +kernel
theorem dX8_houseOf_41 : decode cX8_houseOf 41 = .ok (.bipush 6, 2) := by decide +kernel
theorem dX8_houseOf_43 : decode cX8_houseOf 43 = .ok (.if_icmp .ge 12, 3) := by decide +kernel
theorem dX8_houseOf_46 : decode cX8_houseOf 46 = .ok (.aload_n 0, 1) := by decide +kernel
theorem dX8_houseOf_47 : decode cX8_houseOf 47 = .ok (.iload_n 1, 1) := by decide +kernel
theorem dX8_houseOf_48 : decode cX8_houseOf 48 = .ok (.iload_n 2, 1) := by decide +kernel
theorem dX8_houseOf_49 : decode cX8_houseOf 49 = .ok (.invokevirtual 74, 3) := by decide +kernel
theorem dX8_houseOf_52 : decode cX8_houseOf 52 = .ok (.goto 24, 3) := by decide +kernel
theorem dX8_houseOf_55 : decode cX8_houseOf 55 = .ok (.iload_n 2, 1) := by decide +kernel
theorem dX8_houseOf_56 : decode cX8_houseOf 56 = .ok (.bipush 6, 2) := by decide +kernel
theorem dX8_houseOf_58 : decode cX8_houseOf 58 = .ok (.if_icmp .ne 11, 3) := by decide +kernel
theorem dX8_houseOf_61 : decode cX8_houseOf 61 = .ok (.aload_n 0, 1) := by decide +kernel
theorem dX8_houseOf_62 : decode cX8_houseOf 62 = .ok (.iload_n 1, 1) := by decide +kernel
theorem dX8_houseOf_63 : decode cX8_houseOf 63 = .ok (.invokevirtual 111, 3) := by decide +kernel
theorem dX8_houseOf_66 : decode cX8_houseOf 66 = .ok (.goto 10, 3) := by decide +kernel
theorem dX8_houseOf_69 : decode cX8_houseOf 69 = .ok (.aload_n 0, 1) := by decide +kernel
theorem dX8_houseOf_70 : decode cX8_houseOf 70 = .ok (.iload_n 1, 1) := by decide +kernel
theorem dX8_houseOf_71 : decode cX8_houseOf 71 = .ok (.bipush 8, 2) := by decide +kernel
theorem dX8_houseOf_73 : decode cX8_houseOf 73 = .ok (.invokevirtual 74, 3) := by decide +kernel
theorem dX8_houseOf_76 : decode cX8_houseOf 76 = .ok (.ireturn, 1) := by decide +kernel
theorem dX8_carrierOf_0 : decode cX8_carrierOf 0 = .ok (.aload_n 0, 1) := by decide +kernel
theorem dX8_carrierOf_1 : decode cX8_carrierOf 1 = .ok (.aload_n 0, 1) := by decide +kernel
theorem dX8_carrierOf_2 : decode cX8_carrierOf 2 = .ok (.iload_n 1, 1) := by decide +kernel
theorem dX8_carrierOf_3 : decode cX8_carrierOf 3 = .ok (.invokevirtual 115, 3) := by decide +kernel
theorem dX8_carrierOf_6 : decode cX8_carrierOf 6 = .ok (.ifCond .ne 7, 3) := by decide +kernel
theorem dX8_carrierOf_9 : decode cX8_carrierOf 9 = .ok (.iconst 1, 1) := by decide +kernel
theorem dX8_carrierOf_10 : decode cX8_carrierOf 10 = .ok (.goto 17, 3) := by decide +kernel
theorem dX8_carrierOf_13 : decode cX8_carrierOf 13 = .ok (.iload_n 2, 1) := by decide +kernel
theorem dX8_carrierOf_14 : decode cX8_carrierOf 14 = .ok (.iconst 0, 1) := by decide +kernel
theorem dX8_carrierOf_15 : decode cX8_carrierOf 15 = .ok (.iconst 3, 1) := by decide +kernel
theorem dX8_carrierOf_16 : decode cX8_carrierOf 16 = .ok (.invokestatic 66, 3) := by decide +kernel
theorem dX8_carrierOf_19 : decode cX8_carrierOf 19 = .ok (.ifCond .ne 7, 3) := by decide +kernel
theorem dX8_carrierOf_22 : decode cX8_carrierOf 22 = .ok (.iconst 2, 1) := by decide +kernel
theorem dX8_carrierOf_23 : decode cX8_carrierOf 23 = .ok (.goto 4, 3) := by decide +kernel
theorem dX8_carrierOf_26 : decode cX8_carrierOf 26 = .ok (.iconst 0, 1) := by decide +kernel
theorem dX8_carrierOf_27 : decode cX8_carrierOf 27 = .ok (.putfield 38, 3) := by decide +kernel
theorem dX8_carrierOf_30 : decode cX8_carrierOf 30 = .ok (.aload_n 0, 1) := by decide +kernel
theorem dX8_carrierOf_31 : decode cX8_carrierOf 31 = .ok (.getfield 38, 3) := by decide +kernel
theorem dX8_carrierOf_34 : decode cX8_carrierOf 34 = .ok (.ifCond .ne 12, 3) := by decide +kernel
theorem dX8_carrierOf_37 : decode cX8_carrierOf 37 = .ok (.aload_n 0, 1) := by decide +kernel
theorem dX8_carrierOf_38 : decode cX8_carrierOf 38 = .ok (.iload_n 1, 1) := by decide +kernel
theorem dX8_carrierOf_39 : decode cX8_carrierOf 39 = .ok (.iload_n 2, 1) := by decide +kernel
theorem dX8_carrierOf_40 : decode cX8_carrierOf 40 = .ok (.invokevirtual 83, 3) := by decide +kernel
theorem dX8_carrierOf_43 : decode cX8_carrierOf 43 = .ok (.goto 4, 3) := by decide +kernel
theorem dX8_carrierOf_46 : decode cX8_carrierOf 46 = .ok (.iconst 0, 1) := by decide +kernel
theorem dX8_carrierOf_47 : decode cX8_carrierOf 47 = .ok (.ireturn, 1) := by decide +kernel
theorem dX8_isShoe_0 : decode cX8_isShoe 0 = .ok (.iload_n 0, 1) := by decide +kernel
theorem dX8_isShoe_1 : decode cX8_isShoe 1 = .ok (.iconst 0, 1) := by decide +kernel
theorem dX8_isShoe_2 : decode cX8_isShoe 2 = .ok (.iconst 3, 1) := by decide +kernel
theorem dX8_isShoe_3 : decode cX8_isShoe 3 = .ok (.invokestatic 66, 3) := by decide +kernel
theorem dX8_isShoe_6 : decode cX8_isShoe 6 = .ok (.ireturn, 1) := by decide +kernel
theorem dX8_shoes_0 : decode cX8_shoes 0 = .ok (.iconst 0, 1) := by decide +kernel
theorem dX8_shoes_1 : decode cX8_shoes 1 = .ok (.istore_n 1, 1) := by decide +kernel
theorem dX8_shoes_2 : decode cX8_shoes 2 = .ok (.iconst 0, 1) := by decide +kernel
theorem dX8_shoes_3 : decode cX8_shoes 3 = .ok (.istore_n 2, 1) := by decide +kernel
theorem dX8_shoes_4 : decode cX8_shoes 4 = .ok (.iload_n 2, 1) := by decide +kernel
theorem dX8_shoes_5 : decode cX8_shoes 5 = .ok (.iconst 4, 1) := by decide +kernel
theorem dX8_shoes_6 : decode cX8_shoes 6 = .ok (.if_icmp .ge 31, 3) := by decide +kernel
theorem dX8_shoes_9 : decode cX8_shoes 9 = .ok (.iload_n 1, 1) := by decide +kernel
theorem dX8_shoes_10 : decode cX8_shoes 10 = .ok (.aload_n 0, 1) := by decide +kernel
theorem dX8_shoes_11 : decode cX8_shoes 11 = .ok (.getfield 9, 3) := by decide +kernel
theorem dX8_shoes_14 : decode cX8_shoes 14 = .ok (.bipush 10, 2) := by decide +kernel
theorem dX8_shoes_16 : decode cX8_shoes 16 = .ok (.iload_n 2, 1) := by decide +kernel
theorem dX8_shoes_17 : decode cX8_shoes 17 = .ok (.iadd, 1) := by decide +kernel
theorem dX8_shoes_18 : decode cX8_shoes 18 = .ok (.iaload, 1) := by decide +kernel
theorem dX8_shoes_19 : decode cX8_shoes 19 = .ok (.bipush 20, 2) := by decide +kernel
theorem dX8_shoes_21 : decode cX8_shoes 21 = .ok (.if_icmp .ge 7, 3) := by decide +kernel
theorem dX8_shoes_24 : decode cX8_shoes 24 = .ok (.iconst 1, 1) := by decide +kernel
theorem dX8_shoes_25 : decode cX8_shoes 25 = .ok (.goto 4, 3) := by decide +kernel
theorem dX8_shoes_28 : decode cX8_shoes 28 = .ok (.iconst 0, 1) := by decide +kernel
theorem dX8_shoes_29 : decode cX8_shoes 29 = .ok (.iadd, 1) := by decide +kernel
theorem dX8_shoes_30 : decode cX8_shoes 30 = .ok (.istore_n 1, 1) := by decide +kernel
theorem dX8_shoes_31 : decode cX8_shoes 31 = .ok (.iinc 2 1, 3) := by decide +kernel
theorem dX8_shoes_34 : decode cX8_shoes 34 = .ok (.goto (-30), 3) := by decide +kernel
theorem dX8_shoes_37 : decode cX8_shoes 37 = .ok (.iload_n 1, 1) := by decide +kernel
theorem dX8_shoes_38 : decode cX8_shoes 38 = .ok (.ireturn, 1) := by decide +kernel
theorem dX8_loads_0 : decode cX8_loads 0 = .ok (.aload_n 0, 1) := by decide +kernel
theorem dX8_loads_1 : decode cX8_loads 1 = .ok (.iload_n 1, 1) := by decide +kernel
theorem dX8_loads_2 : decode cX8_loads 2 = .ok (.iconst 1, 1) := by decide +kernel
theorem dX8_loads_3 : decode cX8_loads 3 = .ok (.bipush 30, 2) := by decide +kernel
theorem dX8_loads_5 : decode cX8_loads 5 = .ok (.invokestatic 66, 3) := by decide +kernel
theorem dX8_loads_8 : decode cX8_loads 8 = .ok (.ifCond .ne 7, 3) := by decide +kernel
theorem dX8_loads_11 : decode cX8_loads 11 = .ok (.iconst 1, 1) := by decide +kernel
theorem dX8_loads_12 : decode cX8_loads 12 = .ok (.goto 4, 3) := by decide +kernel
theorem dX8_loads_15 : decode cX8_loads 15 = .ok (.iconst 0, 1) := by decide +kernel
theorem dX8_loads_16 : decode cX8_loads 16 = .ok (.iconst 1, 1) := by decide +kernel
theorem dX8_loads_17 : decode cX8_loads 17 = .ok (.iconst 0, 1) := by decide +kernel
theorem dX8_loads_18 : decode cX8_loads 18 = .ok (.invokevirtual 92, 3) := by decide +kernel
theorem dX8_loads_21 : decode cX8_loads 21 = .ok (.aload_n 0, 1) := by decide +kernel
theorem dX8_loads_22 : decode cX8_loads 22 = .ok (.aload_n 0, 1) := by decide +kernel
theorem dX8_loads_23 : decode cX8_loads 23 = .ok (.getfield 9, 3) := by decide +kernel
theorem dX8_loads_26 : decode cX8_loads 26 = .ok (.iconst 3, 1) := by decide +kernel
theorem dX8_loads_27 : decode cX8_loads 27 = .ok (.iaload, 1) := by decide +kernel
theorem dX8_loads_28 : decode cX8_loads 28 = .ok (.ifCond .eq 7, 3) := by decide +kernel
theorem dX8_loads_31 : decode cX8_loads 31 = .ok (.iconst 1, 1) := by decide +kernel
theorem dX8_loads_32 : decode cX8_loads 32 = .ok (.goto 4, 3) := by decide +kernel
theorem dX8_loads_35 : decode cX8_loads 35 = .ok (.iconst 0, 1) := by decide +kernel
theorem dX8_loads_36 : decode cX8_loads 36 = .ok (.bipush 6, 2) := by decide +kernel
theorem dX8_loads_38 : decode cX8_loads 38 = .ok (.aload_n 0, 1) := by decide +kernel
theorem dX8_loads_39 : decode cX8_loads 39 = .ok (.getfield 9, 3) := by decide +kernel
theorem dX8_loads_42 : decode cX8_loads 42 = .ok (.iconst 3, 1) := by decide +kernel
theorem dX8_loads_43 : decode cX8_loads 43 = .ok (.iaload, 1) := by decide +kernel
theorem dX8_loads_44 : decode cX8_loads 44 = .ok (.invokevirtual 92, 3) := by decide +kernel
theorem dX8_loads_47 : decode cX8_loads 47 = .ok (.aload_n 0, 1) := by decide +kernel
theorem dX8_loads_48 : decode cX8_loads 48 = .ok (.aload_n 0, 1) := by decide +kernel
theorem dX8_loads_49 : decode cX8_loads 49 = .ok (.getfield 9, 3) := by decide +kernel
theorem dX8_loads_52 : decode cX8_loads 52 = .ok (.iconst 5, 1) := by decide +kernel
theorem dX8_loads_53 : decode cX8_loads 53 = .ok (.iaload, 1) := by decide +kernel
theorem dX8_loads_54 : decode cX8_loads 54 = .ok (.iload_n 1, 1) := by decide +kernel
theorem dX8_loads_55 : decode cX8_loads 55 = .ok (.if_icmp .ge 7, 3) := by decide +kernel
theorem dX8_loads_58 : decode cX8_loads 58 = .ok (.iconst 1, 1) := by decide +kernel
theorem dX8_loads_59 : decode cX8_loads 59 = .ok (.goto 4, 3) := by decide +kernel
theorem dX8_loads_62 : decode cX8_loads 62 = .ok (.iconst 0, 1) := by decide +kernel
theorem dX8_loads_63 : decode cX8_loads 63 = .ok (.bipush 8, 2) := by decide +kernel
theorem dX8_loads_65 : decode cX8_loads 65 = .ok (.aload_n 0, 1) := by decide +kernel
theorem dX8_loads_66 : decode cX8_loads 66 = .ok (.getfield 9, 3) := by decide +kernel
theorem dX8_loads_69 : decode cX8_loads 69 = .ok (.iconst 5, 1) := by decide +kernel
theorem dX8_loads_70 : decode cX8_loads 70 = .ok (.iaload, 1) := by decide +kernel
theorem dX8_loads_71 : decode cX8_loads 71 = .ok (.invokevirtual 92, 3) := by decide +kernel
theorem dX8_loads_74 : decode cX8_loads 74 = .ok (.aload_n 0, 1) := by decide +kernel
theorem dX8_loads_75 : decode cX8_loads 75 = .ok (.aload_n 0, 1) := by decide +kernel
theorem dX8_loads_76 : decode cX8_loads 76 = .ok (.getfield 9, 3) := by decide +kernel
theorem dX8_loads_79 : decode cX8_loads 79 = .ok (.iconst 4, 1) := by decide +kernel
theorem dX8_loads_80 : decode cX8_loads 80 = .ok (.iaload, 1) := by decide +kernel
theorem dX8_loads_81 : decode cX8_loads 81 = .ok (.iload_n 1, 1) := by decide +kernel
theorem dX8_loads_82 : decode cX8_loads 82 = .ok (.iadd, 1) := by decide +kernel
theorem dX8_loads_83 : decode cX8_loads 83 = .ok (.bipush 30, 2) := by decide +kernel
theorem dX8_loads_85 : decode cX8_loads 85 = .ok (.if_icmp .le 7, 3) := by decide +kernel
theorem dX8_loads_88 : decode cX8_loads 88 = .ok (.iconst 1, 1) := by decide +kernel
theorem dX8_loads_89 : decode cX8_loads 89 = .ok (.goto 4, 3) := by decide +kernel
theorem dX8_loads_92 : decode cX8_loads 92 = .ok (.iconst 0, 1) := by decide +kernel
theorem dX8_loads_93 : decode cX8_loads 93 = .ok (.iconst 2, 1) := by decide +kernel
theorem dX8_loads_94 : decode cX8_loads 94 = .ok (.bipush 30, 2) := by decide +kernel
theorem dX8_loads_96 : decode cX8_loads 96 = .ok (.invokevirtual 92, 3) := by decide +kernel
theorem dX8_loads_99 : decode cX8_loads 99 = .ok (.aload_n 0, 1) := by decide +kernel
theorem dX8_loads_100 : decode cX8_loads 100 = .ok (.getfield 41, 3) := by decide +kernel
theorem dX8_loads_103 : decode cX8_loads 103 = .ok (.ifCond .ne 23, 3) := by decide +kernel
theorem dX8_loads_106 : decode cX8_loads 106 = .ok (.aload_n 0, 1) := by decide +kernel
theorem dX8_loads_107 : decode cX8_loads 107 = .ok (.getfield 9, 3) := by decide +kernel
theorem dX8_loads_110 : decode cX8_loads 110 = .ok (.iconst 5, 1) := by decide +kernel
theorem dX8_loads_111 : decode cX8_loads 111 = .ok (.dup2, 1) := by decide +kernel
theorem dX8_loads_112 : decode cX8_loads 112 = .ok (.iaload, 1) := by decide +kernel
theorem dX8_loads_113 : decode cX8_loads 113 = .ok (.iload_n 1, 1) := by decide +kernel
theorem dX8_loads_114 : decode cX8_loads 114 = .ok (.isub, 1) := by decide +kernel
theorem dX8_loads_115 : decode cX8_loads 115 = .ok (.iastore, 1) := by decide +kernel
theorem dX8_loads_116 : decode cX8_loads 116 = .ok (.aload_n 0, 1) := by decide +kernel
theorem dX8_loads_117 : decode cX8_loads 117 = .ok (.getfield 9, 3) := by decide +kernel
theorem dX8_loads_120 : decode cX8_loads 120 = .ok (.iconst 4, 1) := by decide +kernel
theorem dX8_loads_121 : decode cX8_loads 121 = .ok (.dup2, 1) := by decide +kernel
theorem dX8_loads_122 : decode cX8_loads 122 = .ok (.iaload, 1) := by decide +kernel
theorem dX8_loads_123 : decode cX8_loads 123 = .ok (.iload_n 1, 1) := by decide +kernel
theorem dX8_loads_124 : decode cX8_loads 124 = .ok (.iadd, 1) := by decide +kernel
theorem dX8_loads_125 : decode cX8_loads 125 = .ok (.iastore, 1) := by decide +kernel
theorem dX8_loads_126 : decode cX8_loads 126 = .ok (.aload_n 0, 1) := by decide +kernel
theorem dX8_loads_127 : decode cX8_loads 127 = .ok (.getfield 9, 3) := by decide +kernel
theorem dX8_loads_130 : decode cX8_loads 130 = .ok (.iconst 4, 1) := by decide +kernel
theorem dX8_loads_131 : decode cX8_loads 131 = .ok (.iaload, 1) := by decide +kernel
theorem dX8_loads_132 : decode cX8_loads 132 = .ok (.ireturn, 1) := by decide +kernel
theorem dX8_load_0 : decode cX8_load 0 = .ok (.aload_n 0, 1) := by decide +kernel
theorem dX8_load_1 : decode cX8_load 1 = .ok (.invokevirtual 89, 3) := by decide +kernel
theorem dX8_load_4 : decode cX8_load 4 = .ok (.aload_n 0, 1) := by decide +kernel
theorem dX8_load_5 : decode cX8_load 5 = .ok (.aload_n 0, 1) := by decide +kernel
theorem dX8_load_6 : decode cX8_load 6 = .ok (.iload_n 1, 1) := by decide +kernel
theorem dX8_load_7 : decode cX8_load 7 = .ok (.invokevirtual 118, 3) := by decide +kernel
theorem dX8_load_10 : decode cX8_load 10 = .ok (.iconst 0, 1) := by decide +kernel
theorem dX8_load_11 : decode cX8_load 11 = .ok (.iconst 1, 1) := by decide +kernel
theorem dX8_load_12 : decode cX8_load 12 = .ok (.invokevirtual 100, 3) := by decide +kernel
theorem dX8_load_15 : decode cX8_load 15 = .ok (.ireturn, 1) := by decide +kernel
theorem dX8_drives_0 : decode cX8_drives 0 = .ok (.aload_n 0, 1) := by decide +kernel
theorem dX8_drives_1 : decode cX8_drives 1 = .ok (.iload_n 1, 1) := by decide +kernel
theorem dX8_drives_2 : decode cX8_drives 2 = .ok (.iconst 0, 1) := by decide +kernel
theorem dX8_drives_3 : decode cX8_drives 3 = .ok (.aload_n 0, 1) := by decide +kernel
theorem dX8_drives_4 : decode cX8_drives 4 = .ok (.getfield 9, 3) := by decide +kernel
theorem dX8_drives_7 : decode cX8_drives 7 = .ok (.iconst 1, 1) := by decide +kernel
theorem dX8_drives_8 : decode cX8_drives 8 = .ok (.iaload, 1) := by decide +kernel
theorem dX8_drives_9 : decode cX8_drives 9 = .ok (.invokestatic 66, 3) := by decide +kernel
theorem dX8_drives_12 : decode cX8_drives 12 = .ok (.ifCond .ne 7, 3) := by decide +kernel
theorem dX8_drives_15 : decode cX8_drives 15 = .ok (.iconst 1, 1) := by decide +kernel
theorem dX8_drives_16 : decode cX8_drives 16 = .ok (.goto 4, 3) := by decide +kernel
theorem dX8_drives_19 : decode cX8_drives 19 = .ok (.iconst 0, 1) := by decide +kernel
theorem dX8_drives_20 : decode cX8_drives 20 = .ok (.iconst 3, 1) := by decide +kernel
theorem dX8_drives_21 : decode cX8_drives 21 = .ok (.iload_n 1, 1) := by decide +kernel
theorem dX8_drives_22 : decode cX8_drives 22 = .ok (.invokevirtual 92, 3) := by decide +kernel
theorem dX8_drives_25 : decode cX8_drives 25 = .ok (.aload_n 0, 1) := by decide +kernel
theorem dX8_drives_26 : decode cX8_drives 26 = .ok (.iload_n 1, 1) := by decide +kernel
theorem dX8_drives_27 : decode cX8_drives 27 = .ok (.aload_n 0, 1) := by decide +kernel
theorem dX8_drives_28 : decode cX8_drives 28 = .ok (.getfield 9, 3) := by decide +kernel
theorem dX8_drives_31 : decode cX8_drives 31 = .ok (.iconst 3, 1) := by decide +kernel
theorem dX8_drives_32 : decode cX8_drives 32 = .ok (.iaload, 1) := by decide +kernel
theorem dX8_drives_33 : decode cX8_drives 33 = .ok (.if_icmp .ne 7, 3) := by decide +kernel
theorem dX8_drives_36 : decode cX8_drives 36 = .ok (.iconst 1, 1) := by decide +kernel
theorem dX8_drives_37 : decode cX8_drives 37 = .ok (.goto 4, 3) := by decide +kernel
theorem dX8_drives_40 : decode cX8_drives 40 = .ok (.iconst 0, 1) := by decide +kernel
theorem dX8_drives_41 : decode cX8_drives 41 = .ok (.iconst 4, 1) := by decide +kernel
theorem dX8_drives_42 : decode cX8_drives 42 = .ok (.iload_n 1, 1) := by decide +kernel
theorem dX8_drives_43 : decode cX8_drives 43 = .ok (.invokevirtual 92, 3) := by decide +kernel
theorem dX8_drives_46 : decode cX8_drives 46 = .ok (.aload_n 0, 1) := by decide +kernel
theorem dX8_drives_47 : decode cX8_drives 47 = .ok (.iload_n 1, 1) := by decide +kernel
theorem dX8_drives_48 : decode cX8_drives 48 = .ok (.aload_n 0, 1) := by decide +kernel
theorem dX8_drives_49 : decode cX8_drives 49 = .ok (.getfield 9, 3) := by decide +kernel
theorem dX8_drives_52 : decode cX8_drives 52 = .ok (.iconst 3, 1) := by decide +kernel
theorem dX8_drives_53 : decode cX8_drives 53 = .ok (.iaload, 1) := by decide +kernel
theorem dX8_drives_54 : decode cX8_drives 54 = .ok (.if_icmp .le 15, 3) := by decide +kernel
theorem dX8_drives_57 : decode cX8_drives 57 = .ok (.aload_n 0, 1) := by decide +kernel
theorem dX8_drives_58 : decode cX8_drives 58 = .ok (.invokevirtual 121, 3) := by decide +kernel
theorem dX8_drives_61 : decode cX8_drives 61 = .ok (.iconst 3, 1) := by decide +kernel
theorem dX8_drives_62 : decode cX8_drives 62 = .ok (.if_icmp .ge 7, 3) := by decide +kernel
theorem dX8_drives_65 : decode cX8_drives 65 = .ok (.iconst 1, 1) := by decide +kernel
theorem dX8_drives_66 : decode cX8_drives 66 = .ok (.goto 4, 3) := by decide +kernel
theorem dX8_drives_69 : decode cX8_drives 69 = .ok (.iconst 0, 1) := by decide +kernel
theorem dX8_drives_70 : decode cX8_drives 70 = .ok (.iconst 5, 1) := by decide +kernel
theorem dX8_drives_71 : decode cX8_drives 71 = .ok (.aload_n 0, 1) := by decide +kernel
theorem dX8_drives_72 : decode cX8_drives 72 = .ok (.invokevirtual 121, 3) := by decide +kernel
theorem dX8_drives_75 : decode cX8_drives 75 = .ok (.invokevirtual 92, 3) := by decide +kernel
theorem dX8_drives_78 : decode cX8_drives 78 = .ok (.aload_n 0, 1) := by decide +kernel
theorem dX8_drives_79 : decode cX8_drives 79 = .ok (.getfield 41, 3) := by decide +kernel
theorem dX8_drives_82 : decode cX8_drives 82 = .ok (.ifCond .ne 72, 3) := by decide +kernel
theorem dX8_drives_85 : decode cX8_drives 85 = .ok (.iconst 0, 1) := by decide +kernel
theorem dX8_drives_86 : decode cX8_drives 86 = .ok (.iload_n 1, 1) := by decide +kernel
theorem dX8_drives_87 : decode cX8_drives 87 = .ok (.aload_n 0, 1) := by decide +kernel
theorem dX8_drives_88 : decode cX8_drives 88 = .ok (.getfield 9, 3) := by decide +kernel
theorem dX8_drives_91 : decode cX8_drives 91 = .ok (.iconst 3, 1) := by decide +kernel
theorem dX8_drives_92 : decode cX8_drives 92 = .ok (.iaload, 1) := by decide +kernel
theorem dX8_drives_93 : decode cX8_drives 93 = .ok (.isub, 1) := by decide +kernel
theorem dX8_drives_94 : decode cX8_drives 94 = .ok (.invokestatic 78, 3) := by decide +kernel
theorem dX8_drives_97 : decode cX8_drives 97 = .ok (.istore_n 2, 1) := by decide +kernel
theorem dX8_drives_98 : decode cX8_drives 98 = .ok (.iconst 0, 1) := by decide +kernel
theorem dX8_drives_99 : decode cX8_drives 99 = .ok (.istore_n 3, 1) := by decide +kernel
theorem dX8_drives_100 : decode cX8_drives 100 = .ok (.iload_n 3, 1) := by decide +kernel
theorem dX8_drives_101 : decode cX8_drives 101 = .ok (.iconst 4, 1) := by decide +kernel
theorem dX8_drives_102 : decode cX8_drives 102 = .ok (.if_icmp .ge 34, 3) := by decide +kernel
theorem dX8_drives_105 : decode cX8_drives 105 = .ok (.aload_n 0, 1) := by decide +kernel
theorem dX8_drives_106 : decode cX8_drives 106 = .ok (.getfield 9, 3) := by decide +kernel
theorem dX8_drives_109 : decode cX8_drives 109 = .ok (.bipush 10, 2) := by decide +kernel
theorem dX8_drives_111 : decode cX8_drives 111 = .ok (.iload_n 3, 1) := by decide +kernel
theorem dX8_drives_112 : decode cX8_drives 112 = .ok (.iadd, 1) := by decide +kernel
theorem dX8_drives_113 : decode cX8_drives 113 = .ok (.bipush 20, 2) := by decide +kernel
theorem dX8_drives_115 : decode cX8_drives 115 = .ok (.aload_n 0, 1) := by decide +kernel
theorem dX8_drives_116 : decode cX8_drives 116 = .ok (.getfield 9, 3) := by decide +kernel
theorem dX8_drives_119 : decode cX8_drives 119 = .ok (.bipush 10, 2) := by decide +kernel
theorem dX8_drives_121 : decode cX8_drives 121 = .ok (.iload_n 3, 1) := by decide +kernel
theorem dX8_drives_122 : decode cX8_drives 122 = .ok (.iadd, 1) := by decide +kernel
theorem dX8_drives_123 : decode cX8_drives 123 = .ok (.iaload, 1) := by decide +kernel
theorem dX8_drives_124 : decode cX8_drives 124 = .ok (.iload_n 2, 1) := by decide +kernel
theorem dX8_drives_125 : decode cX8_drives 125 = .ok (.iadd, 1) := by decide +kernel
theorem dX8_drives_126 : decode cX8_drives 126 = .ok (.invokestatic 125, 3) := by decide +kernel
theorem dX8_drives_129 : decode cX8_drives 129 = .ok (.iastore, 1) := by decide +kernel
theorem dX8_drives_130 : decode cX8_drives 130 = .ok (.iinc 3 1, 3) := by decide +kernel
theorem dX8_drives_133 : decode cX8_drives 133 = .ok (.goto (-33), 3) := by decide +kernel
theorem dX8_drives_136 : decode cX8_drives 136 = .ok (.aload_n 0, 1) := by decide +kernel
theorem dX8_drives_137 : decode cX8_drives 137 = .ok (.getfield 9, 3) := by decide +kernel
theorem dX8_drives_140 : decode cX8_drives 140 = .ok (.bipush 9, 2) := by decide +kernel
theorem dX8_drives_142 : decode cX8_drives 142 = .ok (.dup2, 1) := by decide +kernel
theorem dX8_drives_143 : decode cX8_drives 143 = .ok (.iaload, 1) := by decide +kernel
theorem dX8_drives_144 : decode cX8_drives 144 = .ok (.iload_n 2, 1) := by decide +kernel
theorem dX8_drives_145 : decode cX8_drives 145 = .ok (.iadd, 1) := by decide +kernel
theorem dX8_drives_146 : decode cX8_drives 146 = .ok (.iastore, 1) := by decide +kernel
theorem dX8_drives_147 : decode cX8_drives 147 = .ok (.aload_n 0, 1) := by decide +kernel
theorem dX8_drives_148 : decode cX8_drives 148 = .ok (.getfield 9, 3) := by decide +kernel
theorem dX8_drives_151 : decode cX8_drives 151 = .ok (.iconst 3, 1) := by decide +kernel
theorem dX8_drives_152 : decode cX8_drives 152 = .ok (.iload_n 1, 1) := by decide +kernel
theorem dX8_drives_153 : decode cX8_drives 153 = .ok (.iastore, 1) := by decide +kernel
theorem dX8_drives_154 : decode cX8_drives 154 = .ok (.aload_n 0, 1) := by decide +kernel
theorem dX8_drives_155 : decode cX8_drives 155 = .ok (.invokevirtual 121, 3) := by decide +kernel
theorem dX8_drives_158 : decode cX8_drives 158 = .ok (.ireturn, 1) := by decide +kernel
theorem dX8_drive_0 : decode cX8_drive 0 = .ok (.aload_n 0, 1) := by decide +kernel
theorem dX8_drive_1 : decode cX8_drive 1 = .ok (.invokevirtual 89, 3) := by decide +kernel
theorem dX8_drive_4 : decode cX8_drive 4 = .ok (.aload_n 0, 1) := by decide +kernel
theorem dX8_drive_5 : decode cX8_drive 5 = .ok (.aload_n 0, 1) := by decide +kernel
theorem dX8_drive_6 : decode cX8_drive 6 = .ok (.iload_n 1, 1) := by decide +kernel
theorem dX8_drive_7 : decode cX8_drive 7 = .ok (.invokevirtual 128, 3) := by decide +kernel
theorem dX8_drive_10 : decode cX8_drive 10 = .ok (.iconst 0, 1) := by decide +kernel
theorem dX8_drive_11 : decode cX8_drive 11 = .ok (.iconst 1, 1) := by decide +kernel
theorem dX8_drive_12 : decode cX8_drive 12 = .ok (.invokevirtual 100, 3) := by decide +kernel
theorem dX8_drive_15 : decode cX8_drive 15 = .ok (.ireturn, 1) := by decide +kernel
theorem dX8_shods_0 : decode cX8_shods 0 = .ok (.iload_n 1, 1) := by decide +kernel
theorem dX8_shods_1 : decode cX8_shods 1 = .ok (.invokestatic 131, 3) := by decide +kernel
theorem dX8_shods_4 : decode cX8_shods 4 = .ok (.ifCond .eq 15, 3) := by decide +kernel
theorem dX8_shods_7 : decode cX8_shods 7 = .ok (.aload_n 0, 1) := by decide +kernel
theorem dX8_shods_8 : decode cX8_shods 8 = .ok (.getfield 9, 3) := by decide +kernel
theorem dX8_shods_11 : decode cX8_shods 11 = .ok (.bipush 10, 2) := by decide +kernel
theorem dX8_shods_13 : decode cX8_shods 13 = .ok (.iload_n 1, 1) := by decide +kernel
theorem dX8_shods_14 : decode cX8_shods 14 = .ok (.iadd, 1) := by decide +kernel
theorem dX8_shods_15 : decode cX8_shods 15 = .ok (.iaload, 1) := by decide +kernel
theorem dX8_shods_16 : decode cX8_shods 16 = .ok (.goto 4, 3) := by decide +kernel
theorem dX8_shods_19 : decode cX8_shods 19 = .ok (.iconst 0, 1) := by decide +kernel
theorem dX8_shods_20 : decode cX8_shods 20 = .ok (.istore_n 2, 1) := by decide +kernel
theorem dX8_shods_21 : decode cX8_shods 21 = .ok (.aload_n 0, 1) := by decide +kernel
theorem dX8_shods_22 : decode cX8_shods 22 = .ok (.iload_n 1, 1) := by decide +kernel
theorem dX8_shods_23 : decode cX8_shods 23 = .ok (.invokestatic 131, 3) := by decide +kernel
theorem dX8_shods_26 : decode cX8_shods 26 = .ok (.ifCond .ne 7, 3) := by decide +kernel
theorem dX8_shods_29 : decode cX8_shods 29 = .ok (.iconst 1, 1) := by decide +kernel
theorem dX8_shods_30 : decode cX8_shods 30 = .ok (.goto 4, 3) := by decide +kernel
theorem dX8_shods_33 : decode cX8_shods 33 = .ok (.iconst 0, 1) := by decide +kernel
theorem dX8_shods_34 : decode cX8_shods 34 = .ok (.iconst 3, 1) := by decide +kernel
theorem dX8_shods_35 : decode cX8_shods 35 = .ok (.iload_n 1, 1) := by decide +kernel
theorem dX8_shods_36 : decode cX8_shods 36 = .ok (.invokevirtual 92, 3) := by decide +kernel
theorem dX8_shods_39 : decode cX8_shods 39 = .ok (.aload_n 0, 1) := by decide +kernel
theorem dX8_shods_40 : decode cX8_shods 40 = .ok (.aload_n 0, 1) := by decide +kernel
theorem dX8_shods_41 : decode cX8_shods 41 = .ok (.getfield 9, 3) := by decide +kernel
theorem dX8_shods_44 : decode cX8_shods 44 = .ok (.iconst 3, 1) := by decide +kernel
theorem dX8_shods_45 : decode cX8_shods 45 = .ok (.iaload, 1) := by decide +kernel
theorem dX8_shods_46 : decode cX8_shods 46 = .ok (.ifCond .eq 7, 3) := by decide +kernel
theorem dX8_shods_49 : decode cX8_shods 49 = .ok (.iconst 1, 1) := by decide +kernel
theorem dX8_shods_50 : decode cX8_shods 50 = .ok (.goto 4, 3) := by decide +kernel
theorem dX8_shods_53 : decode cX8_shods 53 = .ok (.iconst 0, 1) := by decide +kernel
theorem dX8_shods_54 : decode cX8_shods 54 = .ok (.bipush 6, 2) := by decide +kernel
theorem dX8_shods_56 : decode cX8_shods 56 = .ok (.aload_n 0, 1) := by decide +kernel
theorem dX8_shods_57 : decode cX8_shods 57 = .ok (.getfield 9, 3) := by decide +kernel
theorem dX8_shods_60 : decode cX8_shods 60 = .ok (.iconst 3, 1) := by decide +kernel
theorem dX8_shods_61 : decode cX8_shods 61 = .ok (.iaload, 1) := by decide +kernel
theorem dX8_shods_62 : decode cX8_shods 62 = .ok (.invokevirtual 92, 3) := by decide +kernel
theorem dX8_shods_65 : decode cX8_shods 65 = .ok (.aload_n 0, 1) := by decide +kernel
theorem dX8_shods_66 : decode cX8_shods 66 = .ok (.iload_n 2, 1) := by decide +kernel
theorem dX8_shods_67 : decode cX8_shods 67 = .ok (.ifCond .ne 7, 3) := by decide +kernel
theorem dX8_shods_70 : decode cX8_shods 70 = .ok (.iconst 1, 1) := by decide +kernel
theorem dX8_shods_71 : decode cX8_shods 71 = .ok (.goto 4, 3) := by decide +kernel
theorem dX8_shods_74 : decode cX8_shods 74 = .ok (.iconst 0, 1) := by decide +kernel
theorem dX8_shods_75 : decode cX8_shods 75 = .ok (.bipush 19, 2) := by decide +kernel
theorem dX8_shods_77 : decode cX8_shods 77 = .ok (.iload_n 1, 1) := by decide +kernel
theorem dX8_shods_78 : decode cX8_shods 78 = .ok (.invokevirtual 92, 3) := by decide +kernel
theorem dX8_shods_81 : decode cX8_shods 81 = .ok (.aload_n 0, 1) := by decide +kernel
theorem dX8_shods_82 : decode cX8_shods 82 = .ok (.aload_n 0, 1) := by decide +kernel
theorem dX8_shods_83 : decode cX8_shods 83 = .ok (.getfield 9, 3) := by decide +kernel
theorem dX8_shods_86 : decode cX8_shods 86 = .ok (.bipush 6, 2) := by decide +kernel
theorem dX8_shods_88 : decode cX8_shods 88 = .ok (.iaload, 1) := by decide +kernel
theorem dX8_shods_89 : decode cX8_shods 89 = .ok (.iconst 4, 1) := by decide +kernel
theorem dX8_shods_90 : decode cX8_shods 90 = .ok (.if_icmp .ge 7, 3) := by decide +kernel
theorem dX8_shods_93 : decode cX8_shods 93 = .ok (.iconst 1, 1) := by decide +kernel
theorem dX8_shods_94 : decode cX8_shods 94 = .ok (.goto 4, 3) := by decide +kernel
theorem dX8_shods_97 : decode cX8_shods 97 = .ok (.iconst 0, 1) := by decide +kernel
theorem dX8_shods_98 : decode cX8_shods 98 = .ok (.bipush 16, 2) := by decide +kernel
theorem dX8_shods_100 : decode cX8_shods 100 = .ok (.iconst 4, 1) := by decide +kernel
theorem dX8_shods_101 : decode cX8_shods 101 = .ok (.aload_n 0, 1) := by decide +kernel
theorem dX8_shods_102 : decode cX8_shods 102 = .ok (.getfield 9, 3) := by decide +kernel
theorem dX8_shods_105 : decode cX8_shods 105 = .ok (.bipush 6, 2) := by decide +kernel
theorem dX8_shods_107 : decode cX8_shods 107 = .ok (.iaload, 1) := by decide +kernel
theorem dX8_shods_108 : decode cX8_shods 108 = .ok (.isub, 1) := by decide +kernel
theorem dX8_shods_109 : decode cX8_shods 109 = .ok (.invokevirtual 92, 3) := by decide +kernel
theorem dX8_shods_112 : decode cX8_shods 112 = .ok (.aload_n 0, 1) := by decide +kernel
theorem dX8_shods_113 : decode cX8_shods 113 = .ok (.getfield 41, 3) := by decide +kernel
theorem dX8_shods_116 : decode cX8_shods 116 = .ok (.ifCond .ne 24, 3) := by decide +kernel
theorem dX8_shods_119 : decode cX8_shods 119 = .ok (.aload_n 0, 1) := by decide +kernel
theorem dX8_shods_120 : decode cX8_shods 120 = .ok (.getfield 9, 3) := by decide +kernel
theorem dX8_shods_123 : decode cX8_shods 123 = .ok (.bipush 10, 2) := by decide +kernel
theorem dX8_shods_125 : decode cX8_shods 125 = .ok (.iload_n 1, 1) := by decide +kernel
theorem dX8_shods_126 : decode cX8_shods 126 = .ok (.iadd, 1) := by decide +kernel
theorem dX8_shods_127 : decode cX8_shods 127 = .ok (.iconst 0, 1) := by decide +kernel
theorem dX8_shods_128 : decode cX8_shods 128 = .ok (.iastore, 1) := by decide +kernel
theorem dX8_shods_129 : decode cX8_shods 129 = .ok (.aload_n 0, 1) := by decide +kernel
theorem dX8_shods_130 : decode cX8_shods 130 = .ok (.getfield 9, 3) := by decide +kernel
theorem dX8_shods_133 : decode cX8_shods 133 = .ok (.bipush 6, 2) := by decide +kernel
theorem dX8_shods_135 : decode cX8_shods 135 = .ok (.dup2, 1) := by decide +kernel
theorem dX8_shods_136 : decode cX8_shods 136 = .ok (.iaload, 1) := by decide +kernel
theorem dX8_shods_137 : decode cX8_shods 137 = .ok (.iconst 4, 1) := by decide +kernel
theorem dX8_shods_138 : decode cX8_shods 138 = .ok (.isub, 1) := by decide +kernel
theorem dX8_shods_139 : decode cX8_shods 139 = .ok (.iastore, 1) := by decide +kernel
theorem dX8_shods_140 : decode cX8_shods 140 = .ok (.iload_n 2, 1) := by decide +kernel
theorem dX8_shods_141 : decode cX8_shods 141 = .ok (.ireturn, 1) := by decide +kernel
theorem dX8_shoe_0 : decode cX8_shoe 0 = .ok (.aload_n 0, 1) := by decide +kernel
theorem dX8_shoe_1 : decode cX8_shoe 1 = .ok (.invokevirtual 89, 3) := by decide +kernel
theorem dX8_shoe_4 : decode cX8_shoe 4 = .ok (.aload_n 0, 1) := by decide +kernel
theorem dX8_shoe_5 : decode cX8_shoe 5 = .ok (.aload_n 0, 1) := by decide +kernel
theorem dX8_shoe_6 : decode cX8_shoe 6 = .ok (.iload_n 1, 1) := by decide +kernel
theorem dX8_shoe_7 : decode cX8_shoe 7 = .ok (.invokevirtual 134, 3) := by decide +kernel
theorem dX8_shoe_10 : decode cX8_shoe 10 = .ok (.iconst 0, 1) := by decide +kernel
theorem dX8_shoe_11 : decode cX8_shoe 11 = .ok (.iconst 1, 1) := by decide +kernel
theorem dX8_shoe_12 : decode cX8_shoe 12 = .ok (.invokevirtual 100, 3) := by decide +kernel
theorem dX8_shoe_15 : decode cX8_shoe 15 = .ok (.ireturn, 1) := by decide +kernel
theorem dX8_shoeOf_0 : decode cX8_shoeOf 0 = .ok (.aload_n 0, 1) := by decide +kernel
theorem dX8_shoeOf_1 : decode cX8_shoeOf 1 = .ok (.iload_n 1, 1) := by decide +kernel
theorem dX8_shoeOf_2 : decode cX8_shoeOf 2 = .ok (.invokestatic 131, 3) := by decide +kernel
theorem dX8_shoeOf_5 : decode cX8_shoeOf 5 = .ok (.ifCond .eq 7, 3) := by decide +kernel
theorem dX8_shoeOf_8 : decode cX8_shoeOf 8 = .ok (.iconst 0, 1) := by decide +kernel
theorem dX8_shoeOf_9 : decode cX8_shoeOf 9 = .ok (.goto 4, 3) := by decide +kernel
theorem dX8_shoeOf_12 : decode cX8_shoeOf 12 = .ok (.iconst 1, 1) := by decide +kernel
theorem dX8_shoeOf_13 : decode cX8_shoeOf 13 = .ok (.putfield 38, 3) := by decide +kernel
theorem dX8_shoeOf_16 : decode cX8_shoeOf 16 = .ok (.aload_n 0, 1) := by decide +kernel
theorem dX8_shoeOf_17 : decode cX8_shoeOf 17 = .ok (.getfield 38, 3) := by decide +kernel
theorem dX8_shoeOf_20 : decode cX8_shoeOf 20 = .ok (.ifCond .ne 15, 3) := by decide +kernel
theorem dX8_shoeOf_23 : decode cX8_shoeOf 23 = .ok (.aload_n 0, 1) := by decide +kernel
theorem dX8_shoeOf_24 : decode cX8_shoeOf 24 = .ok (.getfield 9, 3) := by decide +kernel
theorem dX8_shoeOf_27 : decode cX8_shoeOf 27 = .ok (.bipush 10, 2) := by decide +kernel
theorem dX8_shoeOf_29 : decode cX8_shoeOf 29 = .ok (.iload_n 1, 1) := by decide +kernel
theorem dX8_shoeOf_30 : decode cX8_shoeOf 30 = .ok (.iadd, 1) := by decide +kernel
theorem dX8_shoeOf_31 : decode cX8_shoeOf 31 = .ok (.iaload, 1) := by decide +kernel
theorem dX8_shoeOf_32 : decode cX8_shoeOf 32 = .ok (.goto 4, 3) := by decide +kernel
theorem dX8_shoeOf_35 : decode cX8_shoeOf 35 = .ok (.iconst 0, 1) := by decide +kernel
theorem dX8_shoeOf_36 : decode cX8_shoeOf 36 = .ok (.ireturn, 1) := by decide +kernel
theorem dX8_reach_0 : decode cX8_reach 0 = .ok (.aload_n 0, 1) := by decide +kernel
theorem dX8_reach_1 : decode cX8_reach 1 = .ok (.iconst 0, 1) := by decide +kernel
theorem dX8_reach_2 : decode cX8_reach 2 = .ok (.putfield 38, 3) := by decide +kernel
theorem dX8_reach_5 : decode cX8_reach 5 = .ok (.aload_n 0, 1) := by decide +kernel
theorem dX8_reach_6 : decode cX8_reach 6 = .ok (.invokevirtual 121, 3) := by decide +kernel
theorem dX8_reach_9 : decode cX8_reach 9 = .ok (.iconst 3, 1) := by decide +kernel
theorem dX8_reach_10 : decode cX8_reach 10 = .ok (.if_icmp .lt 21, 3) := by decide +kernel
theorem dX8_reach_13 : decode cX8_reach 13 = .ok (.aload_n 0, 1) := by decide +kernel
theorem dX8_reach_14 : decode cX8_reach 14 = .ok (.getfield 9, 3) := by decide +kernel
theorem dX8_reach_17 : decode cX8_reach 17 = .ok (.iconst 1, 1) := by decide +kernel
theorem dX8_reach_18 : decode cX8_reach 18 = .ok (.iaload, 1) := by decide +kernel
theorem dX8_reach_19 : decode cX8_reach 19 = .ok (.aload_n 0, 1) := by decide +kernel
theorem dX8_reach_20 : decode cX8_reach 20 = .ok (.getfield 9, 3) := by decide +kernel
theorem dX8_reach_23 : decode cX8_reach 23 = .ok (.iconst 3, 1) := by decide +kernel
theorem dX8_reach_24 : decode cX8_reach 24 = .ok (.iaload, 1) := by decide +kernel
theorem dX8_reach_25 : decode cX8_reach 25 = .ok (.invokestatic 78, 3) := by decide +kernel
theorem dX8_reach_28 : decode cX8_reach 28 = .ok (.goto 9, 3) := by decide +kernel
theorem dX8_reach_31 : decode cX8_reach 31 = .ok (.aload_n 0, 1) := by decide +kernel
theorem dX8_reach_32 : decode cX8_reach 32 = .ok (.getfield 9, 3) := by decide +kernel
theorem dX8_reach_35 : decode cX8_reach 35 = .ok (.iconst 3, 1) := by decide +kernel
theorem dX8_reach_36 : decode cX8_reach 36 = .ok (.iaload, 1) := by decide +kernel
theorem dX8_reach_37 : decode cX8_reach 37 = .ok (.ireturn, 1) := by decide +kernel
theorem dX8_here_0 : decode cX8_here 0 = .ok (.aload_n 0, 1) := by decide +kernel
theorem dX8_here_1 : decode cX8_here 1 = .ok (.getfield 9, 3) := by decide +kernel
theorem dX8_here_4 : decode cX8_here 4 = .ok (.iconst 3, 1) := by decide +kernel
theorem dX8_here_5 : decode cX8_here 5 = .ok (.iaload, 1) := by decide +kernel
theorem dX8_here_6 : decode cX8_here 6 = .ok (.iconst 1, 1) := by decide +kernel
theorem dX8_here_7 : decode cX8_here 7 = .ok (.isub, 1) := by decide +kernel
theorem dX8_here_8 : decode cX8_here 8 = .ok (.ireturn, 1) := by decide +kernel
theorem dX8_sackGoesUp_0 : decode cX8_sackGoesUp 0 = .ok (.bipush 9, 2) := by decide +kernel
theorem dX8_sackGoesUp_2 : decode cX8_sackGoesUp 2 = .ok (.aload_n 0, 1) := by decide +kernel
theorem dX8_sackGoesUp_3 : decode cX8_sackGoesUp 3 = .ok (.iload_n 1, 1) := by decide +kernel
theorem dX8_sackGoesUp_4 : decode cX8_sackGoesUp 4 = .ok (.iconst 2, 1) := by decide +kernel
theorem dX8_sackGoesUp_5 : decode cX8_sackGoesUp 5 = .ok (.invokevirtual 83, 3) := by decide +kernel
theorem dX8_sackGoesUp_8 : decode cX8_sackGoesUp 8 = .ok (.iconst 1, 1) := by decide +kernel
theorem dX8_sackGoesUp_9 : decode cX8_sackGoesUp 9 = .ok (.iadd, 1) := by decide +kernel
theorem dX8_sackGoesUp_10 : decode cX8_sackGoesUp 10 = .ok (.invokestatic 125, 3) := by decide +kernel
theorem dX8_sackGoesUp_13 : decode cX8_sackGoesUp 13 = .ok (.istore_n 3, 1) := by decide +kernel
theorem dX8_sackGoesUp_14 : decode cX8_sackGoesUp 14 = .ok (.aload_n 0, 1) := by decide +kernel
theorem dX8_sackGoesUp_15 : decode cX8_sackGoesUp 15 = .ok (.iload_n 1, 1) := by decide +kernel
theorem dX8_sackGoesUp_16 : decode cX8_sackGoesUp 16 = .ok (.iconst 1, 1) := by decide +kernel
theorem dX8_sackGoesUp_17 : decode cX8_sackGoesUp 17 = .ok (.aload_n 0, 1) := by decide +kernel
theorem dX8_sackGoesUp_18 : decode cX8_sackGoesUp 18 = .ok (.iload_n 1, 1) := by decide +kernel
theorem dX8_sackGoesUp_19 : decode cX8_sackGoesUp 19 = .ok (.iconst 1, 1) := by decide +kernel
theorem dX8_sackGoesUp_20 : decode cX8_sackGoesUp 20 = .ok (.invokevirtual 83, 3) := by decide +kernel
theorem dX8_sackGoesUp_23 : decode cX8_sackGoesUp 23 = .ok (.aload_n 0, 1) := by decide +kernel
theorem dX8_sackGoesUp_24 : decode cX8_sackGoesUp 24 = .ok (.iload_n 1, 1) := by decide +kernel
theorem dX8_sackGoesUp_25 : decode cX8_sackGoesUp 25 = .ok (.iload_n 2, 1) := by decide +kernel
theorem dX8_sackGoesUp_26 : decode cX8_sackGoesUp 26 = .ok (.invokevirtual 86, 3) := by decide +kernel
theorem dX8_sackGoesUp_29 : decode cX8_sackGoesUp 29 = .ok (.iadd, 1) := by decide +kernel
theorem dX8_sackGoesUp_30 : decode cX8_sackGoesUp 30 = .ok (.invokevirtual 108, 3) := by decide +kernel
theorem dX8_sackGoesUp_33 : decode cX8_sackGoesUp 33 = .ok (.aload_n 0, 1) := by decide +kernel
theorem dX8_sackGoesUp_34 : decode cX8_sackGoesUp 34 = .ok (.iload_n 1, 1) := by decide +kernel
theorem dX8_sackGoesUp_35 : decode cX8_sackGoesUp 35 = .ok (.iconst 2, 1) := by decide +kernel
theorem dX8_sackGoesUp_36 : decode cX8_sackGoesUp 36 = .ok (.iload_n 3, 1) := by decide +kernel
theorem dX8_sackGoesUp_37 : decode cX8_sackGoesUp 37 = .ok (.invokevirtual 108, 3) := by decide +kernel
theorem dX8_sackGoesUp_40 : decode cX8_sackGoesUp 40 = .ok (.aload_n 0, 1) := by decide +kernel
theorem dX8_sackGoesUp_41 : decode cX8_sackGoesUp 41 = .ok (.iload_n 1, 1) := by decide +kernel
theorem dX8_sackGoesUp_42 : decode cX8_sackGoesUp 42 = .ok (.iconst 3, 1) := by decide +kernel
theorem dX8_sackGoesUp_43 : decode cX8_sackGoesUp 43 = .ok (.aload_n 0, 1) := by decide +kernel
theorem dX8_sackGoesUp_44 : decode cX8_sackGoesUp 44 = .ok (.iload_n 1, 1) := by decide +kernel
theorem dX8_sackGoesUp_45 : decode cX8_sackGoesUp 45 = .ok (.iconst 3, 1) := by decide +kernel
theorem dX8_sackGoesUp_46 : decode cX8_sackGoesUp 46 = .ok (.invokevirtual 83, 3) := by decide +kernel
theorem dX8_sackGoesUp_49 : decode cX8_sackGoesUp 49 = .ok (.iconst 1, 1) := by decide +kernel
theorem dX8_sackGoesUp_50 : decode cX8_sackGoesUp 50 = .ok (.iadd, 1) := by decide +kernel
theorem dX8_sackGoesUp_51 : decode cX8_sackGoesUp 51 = .ok (.invokevirtual 108, 3) := by decide +kernel
theorem dX8_sackGoesUp_54 : decode cX8_sackGoesUp 54 = .ok (.aload_n 0, 1) := by decide +kernel
theorem dX8_sackGoesUp_55 : decode cX8_sackGoesUp 55 = .ok (.iload_n 2, 1) := by decide +kernel
theorem dX8_sackGoesUp_56 : decode cX8_sackGoesUp 56 = .ok (.iconst 5, 1) := by decide +kernel
theorem dX8_sackGoesUp_57 : decode cX8_sackGoesUp 57 = .ok (.aload_n 0, 1) := by decide +kernel
theorem dX8_sackGoesUp_58 : decode cX8_sackGoesUp 58 = .ok (.iload_n 2, 1) := by decide +kernel
theorem dX8_sackGoesUp_59 : decode cX8_sackGoesUp 59 = .ok (.iconst 5, 1) := by decide +kernel
theorem dX8_sackGoesUp_60 : decode cX8_sackGoesUp 60 = .ok (.invokevirtual 74, 3) := by decide +kernel
theorem dX8_sackGoesUp_63 : decode cX8_sackGoesUp 63 = .ok (.iload_n 3, 1) := by decide +kernel
theorem dX8_sackGoesUp_64 : decode cX8_sackGoesUp 64 = .ok (.iconst 3, 1) := by decide +kernel
theorem dX8_sackGoesUp_65 : decode cX8_sackGoesUp 65 = .ok (.idiv, 1) := by decide +kernel
theorem dX8_sackGoesUp_66 : decode cX8_sackGoesUp 66 = .ok (.iadd, 1) := by decide +kernel
theorem dX8_sackGoesUp_67 : decode cX8_sackGoesUp 67 = .ok (.invokevirtual 96, 3) := by decide +kernel
theorem dX8_sackGoesUp_70 : decode cX8_sackGoesUp 70 = .ok (.aload_n 0, 1) := by decide +kernel
theorem dX8_sackGoesUp_71 : decode cX8_sackGoesUp 71 = .ok (.iload_n 2, 1) := by decide +kernel
theorem dX8_sackGoesUp_72 : decode cX8_sackGoesUp 72 = .ok (.iconst 3, 1) := by decide +kernel
theorem dX8_sackGoesUp_73 : decode cX8_sackGoesUp 73 = .ok (.aload_n 0, 1) := by decide +kernel
theorem dX8_sackGoesUp_74 : decode cX8_sackGoesUp 74 = .ok (.iload_n 2, 1) := by decide +kernel
theorem dX8_sackGoesUp_75 : decode cX8_sackGoesUp 75 = .ok (.iconst 3, 1) := by decide +kernel
theorem dX8_sackGoesUp_76 : decode cX8_sackGoesUp 76 = .ok (.invokevirtual 74, 3) := by decide +kernel
theorem dX8_sackGoesUp_79 : decode cX8_sackGoesUp 79 = .ok (.iconst 1, 1) := by decide +kernel
theorem dX8_sackGoesUp_80 : decode cX8_sackGoesUp 80 = .ok (.isub, 1) := by decide +kernel
theorem dX8_sackGoesUp_81 : decode cX8_sackGoesUp 81 = .ok (.invokevirtual 96, 3) := by decide +kernel
theorem dX8_sackGoesUp_84 : decode cX8_sackGoesUp 84 = .ok (.aload_n 0, 1) := by decide +kernel
theorem dX8_sackGoesUp_85 : decode cX8_sackGoesUp 85 = .ok (.iload_n 2, 1) := by decide +kernel
theorem dX8_sackGoesUp_86 : decode cX8_sackGoesUp 86 = .ok (.iconst 4, 1) := by decide +kernel
theorem dX8_sackGoesUp_87 : decode cX8_sackGoesUp 87 = .ok (.aload_n 0, 1) := by decide +kernel
theorem dX8_sackGoesUp_88 : decode cX8_sackGoesUp 88 = .ok (.iload_n 2, 1) := by decide +kernel
theorem dX8_sackGoesUp_89 : decode cX8_sackGoesUp 89 = .ok (.iconst 4, 1) := by decide +kernel
theorem dX8_sackGoesUp_90 : decode cX8_sackGoesUp 90 = .ok (.invokevirtual 74, 3) := by decide +kernel
theorem dX8_sackGoesUp_93 : decode cX8_sackGoesUp 93 = .ok (.iconst 3, 1) := by decide +kernel
theorem dX8_sackGoesUp_94 : decode cX8_sackGoesUp 94 = .ok (.iadd, 1) := by decide +kernel
theorem dX8_sackGoesUp_95 : decode cX8_sackGoesUp 95 = .ok (.invokevirtual 96, 3) := by decide +kernel
theorem dX8_sackGoesUp_98 : decode cX8_sackGoesUp 98 = .ok (.aload_n 0, 1) := by decide +kernel
theorem dX8_sackGoesUp_99 : decode cX8_sackGoesUp 99 = .ok (.iload_n 2, 1) := by decide +kernel
theorem dX8_sackGoesUp_100 : decode cX8_sackGoesUp 100 = .ok (.bipush 6, 2) := by decide +kernel
theorem dX8_sackGoesUp_102 : decode cX8_sackGoesUp 102 = .ok (.aload_n 0, 1) := by decide +kernel
theorem dX8_sackGoesUp_103 : decode cX8_sackGoesUp 103 = .ok (.iload_n 2, 1) := by decide +kernel
theorem dX8_sackGoesUp_104 : decode cX8_sackGoesUp 104 = .ok (.bipush 6, 2) := by decide +kernel
theorem dX8_sackGoesUp_106 : decode cX8_sackGoesUp 106 = .ok (.invokevirtual 74, 3) := by decide +kernel
theorem dX8_sackGoesUp_109 : decode cX8_sackGoesUp 109 = .ok (.iconst 1, 1) := by decide +kernel
theorem dX8_sackGoesUp_110 : decode cX8_sackGoesUp 110 = .ok (.iadd, 1) := by decide +kernel
theorem dX8_sackGoesUp_111 : decode cX8_sackGoesUp 111 = .ok (.invokevirtual 96, 3) := by decide +kernel
theorem dX8_sackGoesUp_114 : decode cX8_sackGoesUp 114 = .ok (.aload_n 0, 1) := by decide +kernel
theorem dX8_sackGoesUp_115 : decode cX8_sackGoesUp 115 = .ok (.iload_n 2, 1) := by decide +kernel
theorem dX8_sackGoesUp_116 : decode cX8_sackGoesUp 116 = .ok (.bipush 8, 2) := by decide +kernel
theorem dX8_sackGoesUp_118 : decode cX8_sackGoesUp 118 = .ok (.aload_n 0, 1) := by decide +kernel
theorem dX8_sackGoesUp_119 : decode cX8_sackGoesUp 119 = .ok (.iload_n 2, 1) := by decide +kernel
theorem dX8_sackGoesUp_120 : decode cX8_sackGoesUp 120 = .ok (.bipush 8, 2) := by decide +kernel
theorem dX8_sackGoesUp_122 : decode cX8_sackGoesUp 122 = .ok (.invokevirtual 74, 3) := by decide +kernel
theorem dX8_sackGoesUp_125 : decode cX8_sackGoesUp 125 = .ok (.iconst 1, 1) := by decide +kernel
theorem dX8_sackGoesUp_126 : decode cX8_sackGoesUp 126 = .ok (.iadd, 1) := by decide +kernel
theorem dX8_sackGoesUp_127 : decode cX8_sackGoesUp 127 = .ok (.invokevirtual 96, 3) := by decide +kernel
theorem dX8_sackGoesUp_130 : decode cX8_sackGoesUp 130 = .ok (.aload_n 0, 1) := by decide +kernel
theorem dX8_sackGoesUp_131 : decode cX8_sackGoesUp 131 = .ok (.getfield 9, 3) := by decide +kernel
theorem dX8_sackGoesUp_134 : decode cX8_sackGoesUp 134 = .ok (.iconst 4, 1) := by decide +kernel
theorem dX8_sackGoesUp_135 : decode cX8_sackGoesUp 135 = .ok (.dup2, 1) := by decide +kernel
theorem dX8_sackGoesUp_136 : decode cX8_sackGoesUp 136 = .ok (.iaload, 1) := by decide +kernel
theorem dX8_sackGoesUp_137 : decode cX8_sackGoesUp 137 = .ok (.iconst 1, 1) := by decide +kernel
theorem dX8_sackGoesUp_138 : decode cX8_sackGoesUp 138 = .ok (.isub, 1) := by decide +kernel
theorem dX8_sackGoesUp_139 : decode cX8_sackGoesUp 139 = .ok (.iastore, 1) := by decide +kernel
theorem dX8_sackGoesUp_140 : decode cX8_sackGoesUp 140 = .ok (.return_, 1) := by decide +kernel
theorem dX8_carries_0 : decode cX8_carries 0 = .ok (.aload_n 0, 1) := by decide +kernel
theorem dX8_carries_1 : decode cX8_carries 1 = .ok (.invokevirtual 137, 3) := by decide +kernel
theorem dX8_carries_4 : decode cX8_carries 4 = .ok (.istore_n 3, 1) := by decide +kernel
theorem dX8_carries_5 : decode cX8_carries 5 = .ok (.aload_n 0, 1) := by decide +kernel
theorem dX8_carries_6 : decode cX8_carries 6 = .ok (.aload_n 0, 1) := by decide +kernel
theorem dX8_carries_7 : decode cX8_carries 7 = .ok (.iload_n 1, 1) := by decide +kernel
theorem dX8_carries_8 : decode cX8_carries 8 = .ok (.invokevirtual 115, 3) := by decide +kernel
theorem dX8_carries_11 : decode cX8_carries 11 = .ok (.ifCond .ne 7, 3) := by decide +kernel
theorem dX8_carries_14 : decode cX8_carries 14 = .ok (.iconst 1, 1) := by decide +kernel
theorem dX8_carries_15 : decode cX8_carries 15 = .ok (.goto 4, 3) := by decide +kernel
theorem dX8_carries_18 : decode cX8_carries 18 = .ok (.iconst 0, 1) := by decide +kernel
theorem dX8_carries_19 : decode cX8_carries 19 = .ok (.iconst 3, 1) := by decide +kernel
theorem dX8_carries_20 : decode cX8_carries 20 = .ok (.iload_n 1, 1) := by decide +kernel
theorem dX8_carries_21 : decode cX8_carries 21 = .ok (.invokevirtual 92, 3) := by decide +kernel
theorem dX8_carries_24 : decode cX8_carries 24 = .ok (.aload_n 0, 1) := by decide +kernel
theorem dX8_carries_25 : decode cX8_carries 25 = .ok (.iload_n 2, 1) := by decide +kernel
theorem dX8_carries_26 : decode cX8_carries 26 = .ok (.iconst 1, 1) := by decide +kernel
theorem dX8_carries_27 : decode cX8_carries 27 = .ok (.bipush 9, 2) := by decide +kernel
theorem dX8_carries_29 : decode cX8_carries 29 = .ok (.invokestatic 66, 3) := by decide +kernel
theorem dX8_carries_32 : decode cX8_carries 32 = .ok (.ifCond .ne 7, 3) := by decide +kernel
theorem dX8_carries_35 : decode cX8_carries 35 = .ok (.iconst 1, 1) := by decide +kernel
theorem dX8_carries_36 : decode cX8_carries 36 = .ok (.goto 4, 3) := by decide +kernel
theorem dX8_carries_39 : decode cX8_carries 39 = .ok (.iconst 0, 1) := by decide +kernel
theorem dX8_carries_40 : decode cX8_carries 40 = .ok (.iconst 1, 1) := by decide +kernel
theorem dX8_carries_41 : decode cX8_carries 41 = .ok (.iconst 0, 1) := by decide +kernel
theorem dX8_carries_42 : decode cX8_carries 42 = .ok (.invokevirtual 92, 3) := by decide +kernel
theorem dX8_carries_45 : decode cX8_carries 45 = .ok (.aload_n 0, 1) := by decide +kernel
theorem dX8_carries_46 : decode cX8_carries 46 = .ok (.iload_n 3, 1) := by decide +kernel
theorem dX8_carries_47 : decode cX8_carries 47 = .ok (.ifCond .ge 7, 3) := by decide +kernel
theorem dX8_carries_50 : decode cX8_carries 50 = .ok (.iconst 1, 1) := by decide +kernel
theorem dX8_carries_51 : decode cX8_carries 51 = .ok (.goto 4, 3) := by decide +kernel
theorem dX8_carries_54 : decode cX8_carries 54 = .ok (.iconst 0, 1) := by decide +kernel
theorem dX8_carries_55 : decode cX8_carries 55 = .ok (.bipush 7, 2) := by decide +kernel
theorem dX8_carries_57 : decode cX8_carries 57 = .ok (.iconst 0, 1) := by decide +kernel
theorem dX8_carries_58 : decode cX8_carries 58 = .ok (.invokevirtual 92, 3) := by decide +kernel
theorem dX8_carries_61 : decode cX8_carries 61 = .ok (.aload_n 0, 1) := by decide +kernel
theorem dX8_carries_62 : decode cX8_carries 62 = .ok (.getfield 41, 3) := by decide +kernel
theorem dX8_carries_65 : decode cX8_carries 65 = .ok (.ifCond .eq 5, 3) := by decide +kernel
theorem dX8_carries_68 : decode cX8_carries 68 = .ok (.iconst 0, 1) := by decide +kernel
theorem dX8_carries_69 : decode cX8_carries 69 = .ok (.ireturn, 1) := by decide +kernel
theorem dX8_carries_70 : decode cX8_carries 70 = .ok (.aload_n 0, 1) := by decide +kernel
theorem dX8_carries_71 : decode cX8_carries 71 = .ok (.iload_n 1, 1) := by decide +kernel
theorem dX8_carries_72 : decode cX8_carries 72 = .ok (.iconst 1, 1) := by decide +kernel
theorem dX8_carries_73 : decode cX8_carries 73 = .ok (.invokevirtual 83, 3) := by decide +kernel
theorem dX8_carries_76 : decode cX8_carries 76 = .ok (.iload_n 2, 1) := by decide +kernel
theorem dX8_carries_77 : decode cX8_carries 77 = .ok (.aload_n 0, 1) := by decide +kernel
theorem dX8_carries_78 : decode cX8_carries 78 = .ok (.iload_n 1, 1) := by decide +kernel
theorem dX8_carries_79 : decode cX8_carries 79 = .ok (.iload_n 3, 1) := by decide +kernel
theorem dX8_carries_80 : decode cX8_carries 80 = .ok (.invokevirtual 86, 3) := by decide +kernel
theorem dX8_carries_83 : decode cX8_carries 83 = .ok (.imul, 1) := by decide +kernel
theorem dX8_carries_84 : decode cX8_carries 84 = .ok (.iadd, 1) := by decide +kernel
theorem dX8_carries_85 : decode cX8_carries 85 = .ok (.istore 4, 2) := by decide +kernel
theorem dX8_carries_87 : decode cX8_carries 87 = .ok (.aload_n 0, 1) := by decide +kernel
theorem dX8_carries_88 : decode cX8_carries 88 = .ok (.aload_n 0, 1) := by decide +kernel
theorem dX8_carries_89 : decode cX8_carries 89 = .ok (.getfield 9, 3) := by decide +kernel
theorem dX8_carries_92 : decode cX8_carries 92 = .ok (.iconst 4, 1) := by decide +kernel
theorem dX8_carries_93 : decode cX8_carries 93 = .ok (.iaload, 1) := by decide +kernel
theorem dX8_carries_94 : decode cX8_carries 94 = .ok (.iload_n 2, 1) := by decide +kernel
theorem dX8_carries_95 : decode cX8_carries 95 = .ok (.if_icmp .ge 7, 3) := by decide +kernel
theorem dX8_carries_98 : decode cX8_carries 98 = .ok (.iconst 1, 1) := by decide +kernel
theorem dX8_carries_99 : decode cX8_carries 99 = .ok (.goto 4, 3) := by decide +kernel
theorem dX8_carries_102 : decode cX8_carries 102 = .ok (.iconst 0, 1) := by decide +kernel
theorem dX8_carries_103 : decode cX8_carries 103 = .ok (.bipush 8, 2) := by decide +kernel
theorem dX8_carries_105 : decode cX8_carries 105 = .ok (.aload_n 0, 1) := by decide +kernel
theorem dX8_carries_106 : decode cX8_carries 106 = .ok (.getfield 9, 3) := by decide +kernel
theorem dX8_carries_109 : decode cX8_carries 109 = .ok (.iconst 4, 1) := by decide +kernel
theorem dX8_carries_110 : decode cX8_carries 110 = .ok (.iaload, 1) := by decide +kernel
theorem dX8_carries_111 : decode cX8_carries 111 = .ok (.invokevirtual 92, 3) := by decide +kernel
theorem dX8_carries_114 : decode cX8_carries 114 = .ok (.aload_n 0, 1) := by decide +kernel
theorem dX8_carries_115 : decode cX8_carries 115 = .ok (.aload_n 0, 1) := by decide +kernel
theorem dX8_carries_116 : decode cX8_carries 116 = .ok (.iload_n 3, 1) := by decide +kernel
theorem dX8_carries_117 : decode cX8_carries 117 = .ok (.iconst 3, 1) := by decide +kernel
theorem dX8_carries_118 : decode cX8_carries 118 = .ok (.invokevirtual 74, 3) := by decide +kernel
theorem dX8_carries_121 : decode cX8_carries 121 = .ok (.iload_n 2, 1) := by decide +kernel
theorem dX8_carries_122 : decode cX8_carries 122 = .ok (.if_icmp .ge 7, 3) := by decide +kernel
theorem dX8_carries_125 : decode cX8_carries 125 = .ok (.iconst 1, 1) := by decide +kernel
theorem dX8_carries_126 : decode cX8_carries 126 = .ok (.goto 4, 3) := by decide +kernel
theorem dX8_carries_129 : decode cX8_carries 129 = .ok (.iconst 0, 1) := by decide +kernel
theorem dX8_carries_130 : decode cX8_carries 130 = .ok (.bipush 9, 2) := by decide +kernel
theorem dX8_carries_132 : decode cX8_carries 132 = .ok (.aload_n 0, 1) := by decide +kernel
theorem dX8_carries_133 : decode cX8_carries 133 = .ok (.iload_n 3, 1) := by decide +kernel
theorem dX8_carries_134 : decode cX8_carries 134 = .ok (.iconst 3, 1) := by decide +kernel
theorem dX8_carries_135 : decode cX8_carries 135 = .ok (.invokevirtual 74, 3) := by decide +kernel
theorem dX8_carries_138 : decode cX8_carries 138 = .ok (.invokevirtual 92, 3) := by decide +kernel
theorem dX8_carries_141 : decode cX8_carries 141 = .ok (.aload_n 0, 1) := by decide +kernel
theorem dX8_carries_142 : decode cX8_carries 142 = .ok (.aload_n 0, 1) := by decide +kernel
theorem dX8_carries_143 : decode cX8_carries 143 = .ok (.iload_n 3, 1) := by decide +kernel
theorem dX8_carries_144 : decode cX8_carries 144 = .ok (.iconst 4, 1) := by decide +kernel
theorem dX8_carries_145 : decode cX8_carries 145 = .ok (.invokevirtual 74, 3) := by decide +kernel
theorem dX8_carries_148 : decode cX8_carries 148 = .ok (.bipush 12, 2) := by decide +kernel
theorem dX8_carries_150 : decode cX8_carries 150 = .ok (.if_icmp .le 7, 3) := by decide +kernel
theorem dX8_carries_153 : decode cX8_carries 153 = .ok (.iconst 1, 1) := by decide +kernel
theorem dX8_carries_154 : decode cX8_carries 154 = .ok (.goto 4, 3) := by decide +kernel
theorem dX8_carries_157 : decode cX8_carries 157 = .ok (.iconst 0, 1) := by decide +kernel
theorem dX8_carries_158 : decode cX8_carries 158 = .ok (.bipush 10, 2) := by decide +kernel
theorem dX8_carries_160 : decode cX8_carries 160 = .ok (.aload_n 0, 1) := by decide +kernel
theorem dX8_carries_161 : decode cX8_carries 161 = .ok (.iload_n 3, 1) := by decide +kernel
theorem dX8_carries_162 : decode cX8_carries 162 = .ok (.iconst 4, 1) := by decide +kernel
theorem dX8_carries_163 : decode cX8_carries 163 = .ok (.invokevirtual 74, 3) := by decide +kernel
theorem dX8_carries_166 : decode cX8_carries 166 = .ok (.invokevirtual 92, 3) := by decide +kernel
theorem dX8_carries_169 : decode cX8_carries 169 = .ok (.aload_n 0, 1) := by decide +kernel
theorem dX8_carries_170 : decode cX8_carries 170 = .ok (.aload_n 0, 1) := by decide +kernel
theorem dX8_carries_171 : decode cX8_carries 171 = .ok (.iload_n 3, 1) := by decide +kernel
theorem dX8_carries_172 : decode cX8_carries 172 = .ok (.iconst 5, 1) := by decide +kernel
theorem dX8_carries_173 : decode cX8_carries 173 = .ok (.invokevirtual 74, 3) := by decide +kernel
theorem dX8_carries_176 : decode cX8_carries 176 = .ok (.bipush 8, 2) := by decide +kernel
theorem dX8_carries_178 : decode cX8_carries 178 = .ok (.if_icmp .le 7, 3) := by decide +kernel
theorem dX8_carries_181 : decode cX8_carries 181 = .ok (.iconst 1, 1) := by decide +kernel
theorem dX8_carries_182 : decode cX8_carries 182 = .ok (.goto 4, 3) := by decide +kernel
theorem dX8_carries_185 : decode cX8_carries 185 = .ok (.iconst 0, 1) := by decide +kernel
theorem dX8_carries_186 : decode cX8_carries 186 = .ok (.bipush 11, 2) := by decide +kernel
theorem dX8_carries_188 : decode cX8_carries 188 = .ok (.aload_n 0, 1) := by decide +kernel
theorem dX8_carries_189 : decode cX8_carries 189 = .ok (.iload_n 3, 1) := by decide +kernel
theorem dX8_carries_190 : decode cX8_carries 190 = .ok (.iconst 5, 1) := by decide +kernel
theorem dX8_carries_191 : decode cX8_carries 191 = .ok (.invokevirtual 74, 3) := by decide +kernel
theorem dX8_carries_194 : decode cX8_carries 194 = .ok (.invokevirtual 92, 3) := by decide +kernel
theorem dX8_carries_197 : decode cX8_carries 197 = .ok (.aload_n 0, 1) := by decide +kernel
theorem dX8_carries_198 : decode cX8_carries 198 = .ok (.aload_n 0, 1) := by decide +kernel
theorem dX8_carries_199 : decode cX8_carries 199 = .ok (.iload_n 3, 1) := by decide +kernel
theorem dX8_carries_200 : decode cX8_carries 200 = .ok (.invokevirtual 111, 3) := by decide +kernel
theorem dX8_carries_203 : decode cX8_carries 203 = .ok (.iload_n 2, 1) := by decide +kernel
theorem dX8_carries_204 : decode cX8_carries 204 = .ok (.if_icmp .ge 7, 3) := by decide +kernel
theorem dX8_carries_207 : decode cX8_carries 207 = .ok (.iconst 1, 1) := by decide +kernel
theorem dX8_carries_208 : decode cX8_carries 208 = .ok (.goto 4, 3) := by decide +kernel
theorem dX8_carries_211 : decode cX8_carries 211 = .ok (.iconst 0, 1) := by decide +kernel
theorem dX8_carries_212 : decode cX8_carries 212 = .ok (.bipush 12, 2) := by decide +kernel
theorem dX8_carries_214 : decode cX8_carries 214 = .ok (.aload_n 0, 1) := by decide +kernel
theorem dX8_carries_215 : decode cX8_carries 215 = .ok (.iload_n 3, 1) := by decide +kernel
theorem dX8_carries_216 : decode cX8_carries 216 = .ok (.invokevirtual 111, 3) := by decide +kernel
theorem dX8_carries_219 : decode cX8_carries 219 = .ok (.invokevirtual 92, 3) := by decide +kernel
theorem dX8_carries_222 : decode cX8_carries 222 = .ok (.aload_n 0, 1) := by decide +kernel
theorem dX8_carries_223 : decode cX8_carries 223 = .ok (.iload 4, 2) := by decide +kernel
theorem dX8_carries_225 : decode cX8_carries 225 = .ok (.bipush 30, 2) := by decide +kernel
theorem dX8_carries_227 : decode cX8_carries 227 = .ok (.if_icmp .le 7, 3) := by decide +kernel
theorem dX8_carries_230 : decode cX8_carries 230 = .ok (.iconst 1, 1) := by decide +kernel
theorem dX8_carries_231 : decode cX8_carries 231 = .ok (.goto 4, 3) := by decide +kernel
theorem dX8_carries_234 : decode cX8_carries 234 = .ok (.iconst 0, 1) := by decide +kernel
theorem dX8_carries_235 : decode cX8_carries 235 = .ok (.bipush 13, 2) := by decide +kernel
theorem dX8_carries_237 : decode cX8_carries 237 = .ok (.iload 4, 2) := by decide +kernel
theorem dX8_carries_239 : decode cX8_carries 239 = .ok (.invokevirtual 92, 3) := by decide +kernel
theorem dX8_carries_242 : decode cX8_carries 242 = .ok (.iconst 0, 1) := by decide +kernel
theorem dX8_carries_243 : decode cX8_carries 243 = .ok (.istore 5, 2) := by decide +kernel
theorem dX8_carries_245 : decode cX8_carries 245 = .ok (.iload 5, 2) := by decide +kernel
theorem dX8_carries_247 : decode cX8_carries 247 = .ok (.iload_n 2, 1) := by decide +kernel
theorem dX8_carries_248 : decode cX8_carries 248 = .ok (.if_icmp .ge 22, 3) := by decide +kernel
theorem dX8_carries_251 : decode cX8_carries 251 = .ok (.aload_n 0, 1) := by decide +kernel
theorem dX8_carries_252 : decode cX8_carries 252 = .ok (.getfield 41, 3) := by decide +kernel
theorem dX8_carries_255 : decode cX8_carries 255 = .ok (.ifCond .ne 15, 3) := by decide +kernel
theorem dX8_carries_258 : decode cX8_carries 258 = .ok (.aload_n 0, 1) := by decide +kernel
theorem dX8_carries_259 : decode cX8_carries 259 = .ok (.iload_n 1, 1) := by decide +kernel
theorem dX8_carries_260 : decode cX8_carries 260 = .ok (.iload_n 3, 1) := by decide +kernel
theorem dX8_carries_261 : decode cX8_carries 261 = .ok (.invokevirtual 140, 3) := by decide +kernel
theorem dX8_carries_264 : decode cX8_carries 264 = .ok (.iinc 5 1, 3) := by decide +kernel
theorem dX8_carries_267 : decode cX8_carries 267 = .ok (.goto (-22), 3) := by decide +kernel
theorem dX8_carries_270 : decode cX8_carries 270 = .ok (.iload 4, 2) := by decide +kernel
theorem dX8_carries_272 : decode cX8_carries 272 = .ok (.ireturn, 1) := by decide +kernel
theorem dX8_carry_0 : decode cX8_carry 0 = .ok (.aload_n 0, 1) := by decide +kernel
theorem dX8_carry_1 : decode cX8_carry 1 = .ok (.invokevirtual 89, 3) := by decide +kernel
theorem dX8_carry_4 : decode cX8_carry 4 = .ok (.aload_n 0, 1) := by decide +kernel
theorem dX8_carry_5 : decode cX8_carry 5 = .ok (.aload_n 0, 1) := by decide +kernel
theorem dX8_carry_6 : decode cX8_carry 6 = .ok (.iload_n 1, 1) := by decide +kernel
theorem dX8_carry_7 : decode cX8_carry 7 = .ok (.iload_n 2, 1) := by decide +kernel
theorem dX8_carry_8 : decode cX8_carry 8 = .ok (.invokevirtual 144, 3) := by decide +kernel
theorem dX8_carry_11 : decode cX8_carry 11 = .ok (.iconst 0, 1) := by decide +kernel
theorem dX8_carry_12 : decode cX8_carry 12 = .ok (.iconst 1, 1) := by decide +kernel
theorem dX8_carry_13 : decode cX8_carry 13 = .ok (.invokevirtual 100, 3) := by decide +kernel
theorem dX8_carry_16 : decode cX8_carry 16 = .ok (.ireturn, 1) := by decide +kernel
theorem dX8_givesBone_0 : decode cX8_givesBone 0 = .ok (.aload_n 0, 1) := by decide +kernel
theorem dX8_givesBone_1 : decode cX8_givesBone 1 = .ok (.invokevirtual 137, 3) := by decide +kernel
theorem dX8_givesBone_4 : decode cX8_givesBone 4 = .ok (.istore_n 1, 1) := by decide +kernel
theorem dX8_givesBone_5 : decode cX8_givesBone 5 = .ok (.aload_n 0, 1) := by decide +kernel
theorem dX8_givesBone_6 : decode cX8_givesBone 6 = .ok (.iload_n 1, 1) := by decide +kernel
theorem dX8_givesBone_7 : decode cX8_givesBone 7 = .ok (.ifCond .ge 7, 3) := by decide +kernel
theorem dX8_givesBone_10 : decode cX8_givesBone 10 = .ok (.iconst 1, 1) := by decide +kernel
theorem dX8_givesBone_11 : decode cX8_givesBone 11 = .ok (.goto 4, 3) := by decide +kernel
theorem dX8_givesBone_14 : decode cX8_givesBone 14 = .ok (.iconst 0, 1) := by decide +kernel
theorem dX8_givesBone_15 : decode cX8_givesBone 15 = .ok (.bipush 7, 2) := by decide +kernel
theorem dX8_givesBone_17 : decode cX8_givesBone 17 = .ok (.iconst 0, 1) := by decide +kernel
theorem dX8_givesBone_18 : decode cX8_givesBone 18 = .ok (.invokevirtual 92, 3) := by decide +kernel
theorem dX8_givesBone_21 : decode cX8_givesBone 21 = .ok (.aload_n 0, 1) := by decide +kernel
theorem dX8_givesBone_22 : decode cX8_givesBone 22 = .ok (.getfield 41, 3) := by decide +kernel
theorem dX8_givesBone_25 : decode cX8_givesBone 25 = .ok (.ifCond .ne 76, 3) := by decide +kernel
theorem dX8_givesBone_28 : decode cX8_givesBone 28 = .ok (.aload_n 0, 1) := by decide +kernel
theorem dX8_givesBone_29 : decode cX8_givesBone 29 = .ok (.aload_n 0, 1) := by decide +kernel
theorem dX8_givesBone_30 : decode cX8_givesBone 30 = .ok (.iload_n 1, 1) := by decide +kernel
theorem dX8_givesBone_31 : decode cX8_givesBone 31 = .ok (.iconst 1, 1) := by decide +kernel
theorem dX8_givesBone_32 : decode cX8_givesBone 32 = .ok (.invokevirtual 74, 3) := by decide +kernel
theorem dX8_givesBone_35 : decode cX8_givesBone 35 = .ok (.ifCond .eq 14, 3) := by decide +kernel
theorem dX8_givesBone_38 : decode cX8_givesBone 38 = .ok (.aload_n 0, 1) := by decide +kernel
theorem dX8_givesBone_39 : decode cX8_givesBone 39 = .ok (.iload_n 1, 1) := by decide +kernel
theorem dX8_givesBone_40 : decode cX8_givesBone 40 = .ok (.bipush 7, 2) := by decide +kernel
theorem dX8_givesBone_42 : decode cX8_givesBone 42 = .ok (.invokevirtual 74, 3) := by decide +kernel
theorem dX8_givesBone_45 : decode cX8_givesBone 45 = .ok (.iconst 1, 1) := by decide +kernel
theorem dX8_givesBone_46 : decode cX8_givesBone 46 = .ok (.if_icmp .ne 7, 3) := by decide +kernel
theorem dX8_givesBone_49 : decode cX8_givesBone 49 = .ok (.iconst 1, 1) := by decide +kernel
theorem dX8_givesBone_50 : decode cX8_givesBone 50 = .ok (.goto 4, 3) := by decide +kernel
theorem dX8_givesBone_53 : decode cX8_givesBone 53 = .ok (.iconst 0, 1) := by decide +kernel
theorem dX8_givesBone_54 : decode cX8_givesBone 54 = .ok (.bipush 14, 2) := by decide +kernel
theorem dX8_givesBone_56 : decode cX8_givesBone 56 = .ok (.iload_n 1, 1) := by decide +kernel
theorem dX8_givesBone_57 : decode cX8_givesBone 57 = .ok (.invokevirtual 92, 3) := by decide +kernel
theorem dX8_givesBone_60 : decode cX8_givesBone 60 = .ok (.aload_n 0, 1) := by decide +kernel
theorem dX8_givesBone_61 : decode cX8_givesBone 61 = .ok (.aload_n 0, 1) := by decide +kernel
theorem dX8_givesBone_62 : decode cX8_givesBone 62 = .ok (.getfield 9, 3) := by decide +kernel
theorem dX8_givesBone_65 : decode cX8_givesBone 65 = .ok (.bipush 8, 2) := by decide +kernel
theorem dX8_givesBone_67 : decode cX8_givesBone 67 = .ok (.iaload, 1) := by decide +kernel
theorem dX8_givesBone_68 : decode cX8_givesBone 68 = .ok (.ifCond .ne 7, 3) := by decide +kernel
theorem dX8_givesBone_71 : decode cX8_givesBone 71 = .ok (.iconst 1, 1) := by decide +kernel
theorem dX8_givesBone_72 : decode cX8_givesBone 72 = .ok (.goto 4, 3) := by decide +kernel
theorem dX8_givesBone_75 : decode cX8_givesBone 75 = .ok (.iconst 0, 1) := by decide +kernel
theorem dX8_givesBone_76 : decode cX8_givesBone 76 = .ok (.bipush 15, 2) := by decide +kernel
theorem dX8_givesBone_78 : decode cX8_givesBone 78 = .ok (.iconst 0, 1) := by decide +kernel
theorem dX8_givesBone_79 : decode cX8_givesBone 79 = .ok (.invokevirtual 92, 3) := by decide +kernel
theorem dX8_givesBone_82 : decode cX8_givesBone 82 = .ok (.aload_n 0, 1) := by decide +kernel
theorem dX8_givesBone_83 : decode cX8_givesBone 83 = .ok (.iload_n 1, 1) := by decide +kernel
theorem dX8_givesBone_84 : decode cX8_givesBone 84 = .ok (.bipush 7, 2) := by decide +kernel
theorem dX8_givesBone_86 : decode cX8_givesBone 86 = .ok (.iconst 1, 1) := by decide +kernel
theorem dX8_givesBone_87 : decode cX8_givesBone 87 = .ok (.invokevirtual 96, 3) := by decide +kernel
theorem dX8_givesBone_90 : decode cX8_givesBone 90 = .ok (.aload_n 0, 1) := by decide +kernel
theorem dX8_givesBone_91 : decode cX8_givesBone 91 = .ok (.getfield 9, 3) := by decide +kernel
theorem dX8_givesBone_94 : decode cX8_givesBone 94 = .ok (.bipush 8, 2) := by decide +kernel
theorem dX8_givesBone_96 : decode cX8_givesBone 96 = .ok (.dup2, 1) := by decide +kernel
theorem dX8_givesBone_97 : decode cX8_givesBone 97 = .ok (.iaload, 1) := by decide +kernel
theorem dX8_givesBone_98 : decode cX8_givesBone 98 = .ok (.iconst 1, 1) := by decide +kernel
theorem dX8_givesBone_99 : decode cX8_givesBone 99 = .ok (.isub, 1) := by decide +kernel
theorem dX8_givesBone_100 : decode cX8_givesBone 100 = .ok (.iastore, 1) := by decide +kernel
theorem dX8_givesBone_101 : decode cX8_givesBone 101 = .ok (.aload_n 0, 1) := by decide +kernel
theorem dX8_givesBone_102 : decode cX8_givesBone 102 = .ok (.getfield 9, 3) := by decide +kernel
theorem dX8_givesBone_105 : decode cX8_givesBone 105 = .ok (.bipush 8, 2) := by decide +kernel
theorem dX8_givesBone_107 : decode cX8_givesBone 107 = .ok (.iaload, 1) := by decide +kernel
theorem dX8_givesBone_108 : decode cX8_givesBone 108 = .ok (.ireturn, 1) := by decide +kernel
theorem dX8_bone_0 : decode cX8_bone 0 = .ok (.aload_n 0, 1) := by decide +kernel
theorem dX8_bone_1 : decode cX8_bone 1 = .ok (.invokevirtual 89, 3) := by decide +kernel
theorem dX8_bone_4 : decode cX8_bone 4 = .ok (.aload_n 0, 1) := by decide +kernel
theorem dX8_bone_5 : decode cX8_bone 5 = .ok (.aload_n 0, 1) := by decide +kernel
theorem dX8_bone_6 : decode cX8_bone 6 = .ok (.invokevirtual 147, 3) := by decide +kernel
theorem dX8_bone_9 : decode cX8_bone 9 = .ok (.iconst 0, 1) := by decide +kernel
theorem dX8_bone_10 : decode cX8_bone 10 = .ok (.iconst 1, 1) := by decide +kernel
theorem dX8_bone_11 : decode cX8_bone 11 = .ok (.invokevirtual 100, 3) := by decide +kernel
theorem dX8_bone_14 : decode cX8_bone 14 = .ok (.ireturn, 1) := by decide +kernel
theorem dX8_bones_0 : decode cX8_bones 0 = .ok (.aload_n 0, 1) := by decide +kernel
theorem dX8_bones_1 : decode cX8_bones 1 = .ok (.invokevirtual 89, 3) := by decide +kernel
theorem dX8_bones_4 : decode cX8_bones 4 = .ok (.aload_n 0, 1) := by decide +kernel
theorem dX8_bones_5 : decode cX8_bones 5 = .ok (.iload_n 1, 1) := by decide +kernel
theorem dX8_bones_6 : decode cX8_bones 6 = .ok (.iconst 1, 1) := by decide +kernel
theorem dX8_bones_7 : decode cX8_bones 7 = .ok (.bipush 9, 2) := by decide +kernel
theorem dX8_bones_9 : decode cX8_bones 9 = .ok (.invokestatic 66, 3) := by decide +kernel
theorem dX8_bones_12 : decode cX8_bones 12 = .ok (.ifCond .ne 7, 3) := by decide +kernel
theorem dX8_bones_15 : decode cX8_bones 15 = .ok (.iconst 1, 1) := by decide +kernel
theorem dX8_bones_16 : decode cX8_bones 16 = .ok (.goto 4, 3) := by decide +kernel
theorem dX8_bones_19 : decode cX8_bones 19 = .ok (.iconst 0, 1) := by decide +kernel
theorem dX8_bones_20 : decode cX8_bones 20 = .ok (.iconst 1, 1) := by decide +kernel
theorem dX8_bones_21 : decode cX8_bones 21 = .ok (.iconst 0, 1) := by decide +kernel
theorem dX8_bones_22 : decode cX8_bones 22 = .ok (.invokevirtual 92, 3) := by decide +kernel
theorem dX8_bones_25 : decode cX8_bones 25 = .ok (.aload_n 0, 1) := by decide +kernel
theorem dX8_bones_26 : decode cX8_bones 26 = .ok (.aload_n 0, 1) := by decide +kernel
theorem dX8_bones_27 : decode cX8_bones 27 = .ok (.getfield 9, 3) := by decide +kernel
theorem dX8_bones_30 : decode cX8_bones 30 = .ok (.bipush 6, 2) := by decide +kernel
theorem dX8_bones_32 : decode cX8_bones 32 = .ok (.iaload, 1) := by decide +kernel
theorem dX8_bones_33 : decode cX8_bones 33 = .ok (.iload_n 1, 1) := by decide +kernel
theorem dX8_bones_34 : decode cX8_bones 34 = .ok (.if_icmp .ge 7, 3) := by decide +kernel
theorem dX8_bones_37 : decode cX8_bones 37 = .ok (.iconst 1, 1) := by decide +kernel
theorem dX8_bones_38 : decode cX8_bones 38 = .ok (.goto 4, 3) := by decide +kernel
theorem dX8_bones_41 : decode cX8_bones 41 = .ok (.iconst 0, 1) := by decide +kernel
theorem dX8_bones_42 : decode cX8_bones 42 = .ok (.bipush 16, 2) := by decide +kernel
theorem dX8_bones_44 : decode cX8_bones 44 = .ok (.iload_n 1, 1) := by decide +kernel
theorem dX8_bones_45 : decode cX8_bones 45 = .ok (.aload_n 0, 1) := by decide +kernel
theorem dX8_bones_46 : decode cX8_bones 46 = .ok (.getfield 9, 3) := by decide +kernel
theorem dX8_bones_49 : decode cX8_bones 49 = .ok (.bipush 6, 2) := by decide +kernel
theorem dX8_bones_51 : decode cX8_bones 51 = .ok (.iaload, 1) := by decide +kernel
theorem dX8_bones_52 : decode cX8_bones 52 = .ok (.isub, 1) := by decide +kernel
theorem dX8_bones_53 : decode cX8_bones 53 = .ok (.invokevirtual 92, 3) := by decide +kernel
theorem dX8_bones_56 : decode cX8_bones 56 = .ok (.aload_n 0, 1) := by decide +kernel
theorem dX8_bones_57 : decode cX8_bones 57 = .ok (.getfield 9, 3) := by decide +kernel
theorem dX8_bones_60 : decode cX8_bones 60 = .ok (.bipush 6, 2) := by decide +kernel
theorem dX8_bones_62 : decode cX8_bones 62 = .ok (.dup2, 1) := by decide +kernel
theorem dX8_bones_63 : decode cX8_bones 63 = .ok (.iaload, 1) := by decide +kernel
theorem dX8_bones_64 : decode cX8_bones 64 = .ok (.iload_n 1, 1) := by decide +kernel
theorem dX8_bones_65 : decode cX8_bones 65 = .ok (.isub, 1) := by decide +kernel
theorem dX8_bones_66 : decode cX8_bones 66 = .ok (.iastore, 1) := by decide +kernel
theorem dX8_bones_67 : decode cX8_bones 67 = .ok (.aload_n 0, 1) := by decide +kernel
theorem dX8_bones_68 : decode cX8_bones 68 = .ok (.getfield 9, 3) := by decide +kernel
theorem dX8_bones_71 : decode cX8_bones 71 = .ok (.bipush 8, 2) := by decide +kernel
theorem dX8_bones_73 : decode cX8_bones 73 = .ok (.dup2, 1) := by decide +kernel
theorem dX8_bones_74 : decode cX8_bones 74 = .ok (.iaload, 1) := by decide +kernel
theorem dX8_bones_75 : decode cX8_bones 75 = .ok (.iload_n 1, 1) := by decide +kernel
theorem dX8_bones_76 : decode cX8_bones 76 = .ok (.iadd, 1) := by decide +kernel
theorem dX8_bones_77 : decode cX8_bones 77 = .ok (.iastore, 1) := by decide +kernel
theorem dX8_bones_78 : decode cX8_bones 78 = .ok (.aload_n 0, 1) := by decide +kernel
theorem dX8_bones_79 : decode cX8_bones 79 = .ok (.aload_n 0, 1) := by decide +kernel
theorem dX8_bones_80 : decode cX8_bones 80 = .ok (.getfield 9, 3) := by decide +kernel
theorem dX8_bones_83 : decode cX8_bones 83 = .ok (.bipush 8, 2) := by decide +kernel
theorem dX8_bones_85 : decode cX8_bones 85 = .ok (.iaload, 1) := by decide +kernel
theorem dX8_bones_86 : decode cX8_bones 86 = .ok (.iconst 0, 1) := by decide +kernel
theorem dX8_bones_87 : decode cX8_bones 87 = .ok (.iconst 1, 1) := by decide +kernel
theorem dX8_bones_88 : decode cX8_bones 88 = .ok (.invokevirtual 100, 3) := by decide +kernel
theorem dX8_bones_91 : decode cX8_bones 91 = .ok (.ireturn, 1) := by decide +kernel
theorem dX8_mops_0 : decode cX8_mops 0 = .ok (.aload_n 0, 1) := by decide +kernel
theorem dX8_mops_1 : decode cX8_mops 1 = .ok (.invokevirtual 137, 3) := by decide +kernel
theorem dX8_mops_4 : decode cX8_mops 4 = .ok (.istore_n 2, 1) := by decide +kernel
theorem dX8_mops_5 : decode cX8_mops 5 = .ok (.aload_n 0, 1) := by decide +kernel
theorem dX8_mops_6 : decode cX8_mops 6 = .ok (.aload_n 0, 1) := by decide +kernel
theorem dX8_mops_7 : decode cX8_mops 7 = .ok (.iload_n 1, 1) := by decide +kernel
theorem dX8_mops_8 : decode cX8_mops 8 = .ok (.invokevirtual 115, 3) := by decide +kernel
theorem dX8_mops_11 : decode cX8_mops 11 = .ok (.ifCond .ne 7, 3) := by decide +kernel
theorem dX8_mops_14 : decode cX8_mops 14 = .ok (.iconst 1, 1) := by decide +kernel
theorem dX8_mops_15 : decode cX8_mops 15 = .ok (.goto 4, 3) := by decide +kernel
theorem dX8_mops_18 : decode cX8_mops 18 = .ok (.iconst 0, 1) := by decide +kernel
theorem dX8_mops_19 : decode cX8_mops 19 = .ok (.iconst 3, 1) := by decide +kernel
theorem dX8_mops_20 : decode cX8_mops 20 = .ok (.iload_n 1, 1) := by decide +kernel
theorem dX8_mops_21 : decode cX8_mops 21 = .ok (.invokevirtual 92, 3) := by decide +kernel
theorem dX8_mops_24 : decode cX8_mops 24 = .ok (.aload_n 0, 1) := by decide +kernel
theorem dX8_mops_25 : decode cX8_mops 25 = .ok (.iload_n 2, 1) := by decide +kernel
theorem dX8_mops_26 : decode cX8_mops 26 = .ok (.ifCond .ge 7, 3) := by decide +kernel
theorem dX8_mops_29 : decode cX8_mops 29 = .ok (.iconst 1, 1) := by decide +kernel
theorem dX8_mops_30 : decode cX8_mops 30 = .ok (.goto 4, 3) := by decide +kernel
theorem dX8_mops_33 : decode cX8_mops 33 = .ok (.iconst 0, 1) := by decide +kernel
theorem dX8_mops_34 : decode cX8_mops 34 = .ok (.bipush 7, 2) := by decide +kernel
theorem dX8_mops_36 : decode cX8_mops 36 = .ok (.iconst 0, 1) := by decide +kernel
theorem dX8_mops_37 : decode cX8_mops 37 = .ok (.invokevirtual 92, 3) := by decide +kernel
theorem dX8_mops_40 : decode cX8_mops 40 = .ok (.aload_n 0, 1) := by decide +kernel
theorem dX8_mops_41 : decode cX8_mops 41 = .ok (.getfield 41, 3) := by decide +kernel
theorem dX8_mops_44 : decode cX8_mops 44 = .ok (.ifCond .eq 5, 3) := by decide +kernel
theorem dX8_mops_47 : decode cX8_mops 47 = .ok (.iconst 0, 1) := by decide +kernel
theorem dX8_mops_48 : decode cX8_mops 48 = .ok (.ireturn, 1) := by decide +kernel
theorem dX8_mops_49 : decode cX8_mops 49 = .ok (.aload_n 0, 1) := by decide +kernel
theorem dX8_mops_50 : decode cX8_mops 50 = .ok (.iload_n 2, 1) := by decide +kernel
theorem dX8_mops_51 : decode cX8_mops 51 = .ok (.iconst 5, 1) := by decide +kernel
theorem dX8_mops_52 : decode cX8_mops 52 = .ok (.invokevirtual 74, 3) := by decide +kernel
theorem dX8_mops_55 : decode cX8_mops 55 = .ok (.istore_n 3, 1) := by decide +kernel
theorem dX8_mops_56 : decode cX8_mops 56 = .ok (.aload_n 0, 1) := by decide +kernel
theorem dX8_mops_57 : decode cX8_mops 57 = .ok (.iload_n 1, 1) := by decide +kernel
theorem dX8_mops_58 : decode cX8_mops 58 = .ok (.iconst 1, 1) := by decide +kernel
theorem dX8_mops_59 : decode cX8_mops 59 = .ok (.invokevirtual 83, 3) := by decide +kernel
theorem dX8_mops_62 : decode cX8_mops 62 = .ok (.iload_n 3, 1) := by decide +kernel
theorem dX8_mops_63 : decode cX8_mops 63 = .ok (.iconst 1, 1) := by decide +kernel
theorem dX8_mops_64 : decode cX8_mops 64 = .ok (.iadd, 1) := by decide +kernel
theorem dX8_mops_65 : decode cX8_mops 65 = .ok (.iconst 2, 1) := by decide +kernel
theorem dX8_mops_66 : decode cX8_mops 66 = .ok (.idiv, 1) := by decide +kernel
theorem dX8_mops_67 : decode cX8_mops 67 = .ok (.iadd, 1) := by decide +kernel
theorem dX8_mops_68 : decode cX8_mops 68 = .ok (.istore 4, 2) := by decide +kernel
theorem dX8_mops_70 : decode cX8_mops 70 = .ok (.aload_n 0, 1) := by decide +kernel
theorem dX8_mops_71 : decode cX8_mops 71 = .ok (.iload_n 3, 1) := by decide +kernel
theorem dX8_mops_72 : decode cX8_mops 72 = .ok (.ifCond .ne 7, 3) := by decide +kernel
theorem dX8_mops_75 : decode cX8_mops 75 = .ok (.iconst 1, 1) := by decide +kernel
theorem dX8_mops_76 : decode cX8_mops 76 = .ok (.goto 4, 3) := by decide +kernel
theorem dX8_mops_79 : decode cX8_mops 79 = .ok (.iconst 0, 1) := by decide +kernel
theorem dX8_mops_80 : decode cX8_mops 80 = .ok (.bipush 18, 2) := by decide +kernel
theorem dX8_mops_82 : decode cX8_mops 82 = .ok (.iload_n 2, 1) := by decide +kernel
theorem dX8_mops_83 : decode cX8_mops 83 = .ok (.invokevirtual 92, 3) := by decide +kernel
theorem dX8_mops_86 : decode cX8_mops 86 = .ok (.aload_n 0, 1) := by decide +kernel
theorem dX8_mops_87 : decode cX8_mops 87 = .ok (.iload 4, 2) := by decide +kernel
theorem dX8_mops_89 : decode cX8_mops 89 = .ok (.bipush 30, 2) := by decide +kernel
theorem dX8_mops_91 : decode cX8_mops 91 = .ok (.if_icmp .le 7, 3) := by decide +kernel
theorem dX8_mops_94 : decode cX8_mops 94 = .ok (.iconst 1, 1) := by decide +kernel
theorem dX8_mops_95 : decode cX8_mops 95 = .ok (.goto 4, 3) := by decide +kernel
theorem dX8_mops_98 : decode cX8_mops 98 = .ok (.iconst 0, 1) := by decide +kernel
theorem dX8_mops_99 : decode cX8_mops 99 = .ok (.bipush 13, 2) := by decide +kernel
theorem dX8_mops_101 : decode cX8_mops 101 = .ok (.iload 4, 2) := by decide +kernel
theorem dX8_mops_103 : decode cX8_mops 103 = .ok (.invokevirtual 92, 3) := by decide +kernel
theorem dX8_mops_106 : decode cX8_mops 106 = .ok (.aload_n 0, 1) := by decide +kernel
theorem dX8_mops_107 : decode cX8_mops 107 = .ok (.iload_n 2, 1) := by decide +kernel
theorem dX8_mops_108 : decode cX8_mops 108 = .ok (.iconst 5, 1) := by decide +kernel
theorem dX8_mops_109 : decode cX8_mops 109 = .ok (.iconst 0, 1) := by decide +kernel
theorem dX8_mops_110 : decode cX8_mops 110 = .ok (.invokevirtual 96, 3) := by decide +kernel
theorem dX8_mops_113 : decode cX8_mops 113 = .ok (.aload_n 0, 1) := by decide +kernel
theorem dX8_mops_114 : decode cX8_mops 114 = .ok (.iload_n 1, 1) := by decide +kernel
theorem dX8_mops_115 : decode cX8_mops 115 = .ok (.iconst 1, 1) := by decide +kernel
theorem dX8_mops_116 : decode cX8_mops 116 = .ok (.iload 4, 2) := by decide +kernel
theorem dX8_mops_118 : decode cX8_mops 118 = .ok (.invokevirtual 108, 3) := by decide +kernel
theorem dX8_mops_121 : decode cX8_mops 121 = .ok (.iload_n 3, 1) := by decide +kernel
theorem dX8_mops_122 : decode cX8_mops 122 = .ok (.ireturn, 1) := by decide +kernel
theorem dX8_mop_0 : decode cX8_mop 0 = .ok (.aload_n 0, 1) := by decide +kernel
theorem dX8_mop_1 : decode cX8_mop 1 = .ok (.invokevirtual 89, 3) := by decide +kernel
theorem dX8_mop_4 : decode cX8_mop 4 = .ok (.aload_n 0, 1) := by decide +kernel
theorem dX8_mop_5 : decode cX8_mop 5 = .ok (.aload_n 0, 1) := by decide +kernel
theorem dX8_mop_6 : decode cX8_mop 6 = .ok (.iload_n 1, 1) := by decide +kernel
theorem dX8_mop_7 : decode cX8_mop 7 = .ok (.invokevirtual 150, 3) := by decide +kernel
theorem dX8_mop_10 : decode cX8_mop 10 = .ok (.iconst 0, 1) := by decide +kernel
theorem dX8_mop_11 : decode cX8_mop 11 = .ok (.iconst 1, 1) := by decide +kernel
theorem dX8_mop_12 : decode cX8_mop 12 = .ok (.invokevirtual 100, 3) := by decide +kernel
theorem dX8_mop_15 : decode cX8_mop 15 = .ok (.ireturn, 1) := by decide +kernel
theorem dX8_pays_0 : decode cX8_pays 0 = .ok (.aload_n 0, 1) := by decide +kernel
theorem dX8_pays_1 : decode cX8_pays 1 = .ok (.aload_n 0, 1) := by decide +kernel
theorem dX8_pays_2 : decode cX8_pays 2 = .ok (.iload_n 1, 1) := by decide +kernel
theorem dX8_pays_3 : decode cX8_pays 3 = .ok (.invokevirtual 104, 3) := by decide +kernel
theorem dX8_pays_6 : decode cX8_pays 6 = .ok (.ifCond .ne 7, 3) := by decide +kernel
theorem dX8_pays_9 : decode cX8_pays 9 = .ok (.iconst 1, 1) := by decide +kernel
theorem dX8_pays_10 : decode cX8_pays 10 = .ok (.goto 4, 3) := by decide +kernel
theorem dX8_pays_13 : decode cX8_pays 13 = .ok (.iconst 0, 1) := by decide +kernel
theorem dX8_pays_14 : decode cX8_pays 14 = .ok (.iconst 3, 1) := by decide +kernel
theorem dX8_pays_15 : decode cX8_pays 15 = .ok (.iload_n 1, 1) := by decide +kernel
theorem dX8_pays_16 : decode cX8_pays 16 = .ok (.invokevirtual 92, 3) := by decide +kernel
theorem dX8_pays_19 : decode cX8_pays 19 = .ok (.aload_n 0, 1) := by decide +kernel
theorem dX8_pays_20 : decode cX8_pays 20 = .ok (.iload_n 2, 1) := by decide +kernel
theorem dX8_pays_21 : decode cX8_pays 21 = .ok (.iconst 1, 1) := by decide +kernel
theorem dX8_pays_22 : decode cX8_pays 22 = .ok (.bipush 99, 2) := by decide +kernel
theorem dX8_pays_24 : decode cX8_pays 24 = .ok (.invokestatic 66, 3) := by decide +kernel
theorem dX8_pays_27 : decode cX8_pays 27 = .ok (.ifCond .ne 7, 3) := by decide +kernel
theorem dX8_pays_30 : decode cX8_pays 30 = .ok (.iconst 1, 1) := by decide +kernel
theorem dX8_pays_31 : decode cX8_pays 31 = .ok (.goto 4, 3) := by decide +kernel
theorem dX8_pays_34 : decode cX8_pays 34 = .ok (.iconst 0, 1) := by decide +kernel
theorem dX8_pays_35 : decode cX8_pays 35 = .ok (.iconst 1, 1) := by decide +kernel
theorem dX8_pays_36 : decode cX8_pays 36 = .ok (.iconst 0, 1) := by decide +kernel
theorem dX8_pays_37 : decode cX8_pays 37 = .ok (.invokevirtual 92, 3) := by decide +kernel
theorem dX8_pays_40 : decode cX8_pays 40 = .ok (.aload_n 0, 1) := by decide +kernel
theorem dX8_pays_41 : decode cX8_pays 41 = .ok (.getfield 41, 3) := by decide +kernel
theorem dX8_pays_44 : decode cX8_pays 44 = .ok (.ifCond .eq 5, 3) := by decide +kernel
theorem dX8_pays_47 : decode cX8_pays 47 = .ok (.iconst 0, 1) := by decide +kernel
theorem dX8_pays_48 : decode cX8_pays 48 = .ok (.ireturn, 1) := by decide +kernel
theorem dX8_pays_49 : decode cX8_pays 49 = .ok (.aload_n 0, 1) := by decide +kernel
theorem dX8_pays_50 : decode cX8_pays 50 = .ok (.aload_n 0, 1) := by decide +kernel
theorem dX8_pays_51 : decode cX8_pays 51 = .ok (.iload_n 1, 1) := by decide +kernel
theorem dX8_pays_52 : decode cX8_pays 52 = .ok (.iconst 4, 1) := by decide +kernel
theorem dX8_pays_53 : decode cX8_pays 53 = .ok (.invokevirtual 74, 3) := by decide +kernel
theorem dX8_pays_56 : decode cX8_pays 56 = .ok (.iload_n 2, 1) := by decide +kernel
theorem dX8_pays_57 : decode cX8_pays 57 = .ok (.if_icmp .ge 7, 3) := by decide +kernel
theorem dX8_pays_60 : decode cX8_pays 60 = .ok (.iconst 1, 1) := by decide +kernel
theorem dX8_pays_61 : decode cX8_pays 61 = .ok (.goto 4, 3) := by decide +kernel
theorem dX8_pays_64 : decode cX8_pays 64 = .ok (.iconst 0, 1) := by decide +kernel
theorem dX8_pays_65 : decode cX8_pays 65 = .ok (.bipush 17, 2) := by decide +kernel
theorem dX8_pays_67 : decode cX8_pays 67 = .ok (.aload_n 0, 1) := by decide +kernel
theorem dX8_pays_68 : decode cX8_pays 68 = .ok (.iload_n 1, 1) := by decide +kernel
theorem dX8_pays_69 : decode cX8_pays 69 = .ok (.iconst 4, 1) := by decide +kernel
theorem dX8_pays_70 : decode cX8_pays 70 = .ok (.invokevirtual 74, 3) := by decide +kernel
theorem dX8_pays_73 : decode cX8_pays 73 = .ok (.invokevirtual 92, 3) := by decide +kernel
theorem dX8_pays_76 : decode cX8_pays 76 = .ok (.aload_n 0, 1) := by decide +kernel
theorem dX8_pays_77 : decode cX8_pays 77 = .ok (.iload_n 1, 1) := by decide +kernel
theorem dX8_pays_78 : decode cX8_pays 78 = .ok (.iconst 4, 1) := by decide +kernel
theorem dX8_pays_79 : decode cX8_pays 79 = .ok (.aload_n 0, 1) := by decide +kernel
theorem dX8_pays_80 : decode cX8_pays 80 = .ok (.iload_n 1, 1) := by decide +kernel
theorem dX8_pays_81 : decode cX8_pays 81 = .ok (.iconst 4, 1) := by decide +kernel
theorem dX8_pays_82 : decode cX8_pays 82 = .ok (.invokevirtual 74, 3) := by decide +kernel
theorem dX8_pays_85 : decode cX8_pays 85 = .ok (.iload_n 2, 1) := by decide +kernel
theorem dX8_pays_86 : decode cX8_pays 86 = .ok (.isub, 1) := by decide +kernel
theorem dX8_pays_87 : decode cX8_pays 87 = .ok (.invokevirtual 96, 3) := by decide +kernel
theorem dX8_pays_90 : decode cX8_pays 90 = .ok (.aload_n 0, 1) := by decide +kernel
theorem dX8_pays_91 : decode cX8_pays 91 = .ok (.getfield 9, 3) := by decide +kernel
theorem dX8_pays_94 : decode cX8_pays 94 = .ok (.bipush 6, 2) := by decide +kernel
theorem dX8_pays_96 : decode cX8_pays 96 = .ok (.dup2, 1) := by decide +kernel
theorem dX8_pays_97 : decode cX8_pays 97 = .ok (.iaload, 1) := by decide +kernel
theorem dX8_pays_98 : decode cX8_pays 98 = .ok (.iload_n 2, 1) := by decide +kernel
theorem dX8_pays_99 : decode cX8_pays 99 = .ok (.iadd, 1) := by decide +kernel
theorem dX8_pays_100 : decode cX8_pays 100 = .ok (.iastore, 1) := by decide +kernel
theorem dX8_pays_101 : decode cX8_pays 101 = .ok (.aload_n 0, 1) := by decide +kernel
theorem dX8_pays_102 : decode cX8_pays 102 = .ok (.getfield 9, 3) := by decide +kernel
theorem dX8_pays_105 : decode cX8_pays 105 = .ok (.bipush 7, 2) := by decide +kernel
theorem dX8_pays_107 : decode cX8_pays 107 = .ok (.dup2, 1) := by decide +kernel
theorem dX8_pays_108 : decode cX8_pays 108 = .ok (.iaload, 1) := by decide +kernel
theorem dX8_pays_109 : decode cX8_pays 109 = .ok (.iload_n 2, 1) := by decide +kernel
theorem dX8_pays_110 : decode cX8_pays 110 = .ok (.iadd, 1) := by decide +kernel
theorem dX8_pays_111 : decode cX8_pays 111 = .ok (.iastore, 1) := by decide +kernel
theorem dX8_pays_112 : decode cX8_pays 112 = .ok (.aload_n 0, 1) := by decide +kernel
theorem dX8_pays_113 : decode cX8_pays 113 = .ok (.iload_n 1, 1) := by decide +kernel
theorem dX8_pays_114 : decode cX8_pays 114 = .ok (.iconst 4, 1) := by decide +kernel
theorem dX8_pays_115 : decode cX8_pays 115 = .ok (.invokevirtual 74, 3) := by decide +kernel
theorem dX8_pays_118 : decode cX8_pays 118 = .ok (.ireturn, 1) := by decide +kernel
theorem dX8_pay_0 : decode cX8_pay 0 = .ok (.aload_n 0, 1) := by decide +kernel
theorem dX8_pay_1 : decode cX8_pay 1 = .ok (.invokevirtual 89, 3) := by decide +kernel
theorem dX8_pay_4 : decode cX8_pay 4 = .ok (.aload_n 0, 1) := by decide +kernel
theorem dX8_pay_5 : decode cX8_pay 5 = .ok (.aload_n 0, 1) := by decide +kernel
theorem dX8_pay_6 : decode cX8_pay 6 = .ok (.iload_n 1, 1) := by decide +kernel
theorem dX8_pay_7 : decode cX8_pay 7 = .ok (.iload_n 2, 1) := by decide +kernel
theorem dX8_pay_8 : decode cX8_pay 8 = .ok (.invokevirtual 153, 3) := by decide +kernel
theorem dX8_pay_11 : decode cX8_pay 11 = .ok (.iconst 0, 1) := by decide +kernel
theorem dX8_pay_12 : decode cX8_pay 12 = .ok (.iconst 1, 1) := by decide +kernel
theorem dX8_pay_13 : decode cX8_pay 13 = .ok (.invokevirtual 100, 3) := by decide +kernel
theorem dX8_pay_16 : decode cX8_pay 16 = .ok (.ireturn, 1) := by decide +kernel
theorem dX8_dayGoes_0 : decode cX8_dayGoes 0 = .ok (.aload_n 0, 1) := by decide +kernel
theorem dX8_dayGoes_1 : decode cX8_dayGoes 1 = .ok (.getfield 9, 3) := by decide +kernel
theorem dX8_dayGoes_4 : decode cX8_dayGoes 4 = .ok (.iconst 0, 1) := by decide +kernel
theorem dX8_dayGoes_5 : decode cX8_dayGoes 5 = .ok (.dup2, 1) := by decide +kernel
theorem dX8_dayGoes_6 : decode cX8_dayGoes 6 = .ok (.iaload, 1) := by decide +kernel
theorem dX8_dayGoes_7 : decode cX8_dayGoes 7 = .ok (.iconst 1, 1) := by decide +kernel
theorem dX8_dayGoes_8 : decode cX8_dayGoes 8 = .ok (.iadd, 1) := by decide +kernel
theorem dX8_dayGoes_9 : decode cX8_dayGoes 9 = .ok (.iastore, 1) := by decide +kernel
theorem dX8_dayGoes_10 : decode cX8_dayGoes 10 = .ok (.iconst 0, 1) := by decide +kernel
theorem dX8_dayGoes_11 : decode cX8_dayGoes 11 = .ok (.istore_n 1, 1) := by decide +kernel
theorem dX8_dayGoes_12 : decode cX8_dayGoes 12 = .ok (.iload_n 1, 1) := by decide +kernel
theorem dX8_dayGoes_13 : decode cX8_dayGoes 13 = .ok (.aload_n 0, 1) := by decide +kernel
theorem dX8_dayGoes_14 : decode cX8_dayGoes 14 = .ok (.getfield 9, 3) := by decide +kernel
theorem dX8_dayGoes_17 : decode cX8_dayGoes 17 = .ok (.iconst 2, 1) := by decide +kernel
theorem dX8_dayGoes_18 : decode cX8_dayGoes 18 = .ok (.iaload, 1) := by decide +kernel
theorem dX8_dayGoes_19 : decode cX8_dayGoes 19 = .ok (.if_icmp .ge 35, 3) := by decide +kernel
theorem dX8_dayGoes_22 : decode cX8_dayGoes 22 = .ok (.aload_n 0, 1) := by decide +kernel
theorem dX8_dayGoes_23 : decode cX8_dayGoes 23 = .ok (.iload_n 1, 1) := by decide +kernel
theorem dX8_dayGoes_24 : decode cX8_dayGoes 24 = .ok (.iconst 1, 1) := by decide +kernel
theorem dX8_dayGoes_25 : decode cX8_dayGoes 25 = .ok (.iconst 0, 1) := by decide +kernel
theorem dX8_dayGoes_26 : decode cX8_dayGoes 26 = .ok (.aload_n 0, 1) := by decide +kernel
theorem dX8_dayGoes_27 : decode cX8_dayGoes 27 = .ok (.iload_n 1, 1) := by decide +kernel
theorem dX8_dayGoes_28 : decode cX8_dayGoes 28 = .ok (.iconst 1, 1) := by decide +kernel
theorem dX8_dayGoes_29 : decode cX8_dayGoes 29 = .ok (.invokevirtual 83, 3) := by decide +kernel
theorem dX8_dayGoes_32 : decode cX8_dayGoes 32 = .ok (.bipush 8, 2) := by decide +kernel
theorem dX8_dayGoes_34 : decode cX8_dayGoes 34 = .ok (.isub, 1) := by decide +kernel
theorem dX8_dayGoes_35 : decode cX8_dayGoes 35 = .ok (.invokestatic 78, 3) := by decide +kernel
theorem dX8_dayGoes_38 : decode cX8_dayGoes 38 = .ok (.invokevirtual 108, 3) := by decide +kernel
theorem dX8_dayGoes_41 : decode cX8_dayGoes 41 = .ok (.aload_n 0, 1) := by decide +kernel
theorem dX8_dayGoes_42 : decode cX8_dayGoes 42 = .ok (.iload_n 1, 1) := by decide +kernel
theorem dX8_dayGoes_43 : decode cX8_dayGoes 43 = .ok (.iconst 2, 1) := by decide +kernel
theorem dX8_dayGoes_44 : decode cX8_dayGoes 44 = .ok (.iconst 0, 1) := by decide +kernel
theorem dX8_dayGoes_45 : decode cX8_dayGoes 45 = .ok (.invokevirtual 108, 3) := by decide +kernel
theorem dX8_dayGoes_48 : decode cX8_dayGoes 48 = .ok (.iinc 1 1, 3) := by decide +kernel
theorem dX8_dayGoes_51 : decode cX8_dayGoes 51 = .ok (.goto (-39), 3) := by decide +kernel
theorem dX8_dayGoes_54 : decode cX8_dayGoes 54 = .ok (.iconst 0, 1) := by decide +kernel
theorem dX8_dayGoes_55 : decode cX8_dayGoes 55 = .ok (.istore_n 1, 1) := by decide +kernel
theorem dX8_dayGoes_56 : decode cX8_dayGoes 56 = .ok (.iload_n 1, 1) := by decide +kernel
theorem dX8_dayGoes_57 : decode cX8_dayGoes 57 = .ok (.aload_n 0, 1) := by decide +kernel
theorem dX8_dayGoes_58 : decode cX8_dayGoes 58 = .ok (.getfield 9, 3) := by decide +kernel
theorem dX8_dayGoes_61 : decode cX8_dayGoes 61 = .ok (.iconst 1, 1) := by decide +kernel
theorem dX8_dayGoes_62 : decode cX8_dayGoes 62 = .ok (.iaload, 1) := by decide +kernel
theorem dX8_dayGoes_63 : decode cX8_dayGoes 63 = .ok (.if_icmp .ge 70, 3) := by decide +kernel
theorem dX8_dayGoes_66 : decode cX8_dayGoes 66 = .ok (.aload_n 0, 1) := by decide +kernel
theorem dX8_dayGoes_67 : decode cX8_dayGoes 67 = .ok (.iload_n 1, 1) := by decide +kernel
theorem dX8_dayGoes_68 : decode cX8_dayGoes 68 = .ok (.bipush 6, 2) := by decide +kernel
theorem dX8_dayGoes_70 : decode cX8_dayGoes 70 = .ok (.iconst 0, 1) := by decide +kernel
theorem dX8_dayGoes_71 : decode cX8_dayGoes 71 = .ok (.invokevirtual 96, 3) := by decide +kernel
theorem dX8_dayGoes_74 : decode cX8_dayGoes 74 = .ok (.aload_n 0, 1) := by decide +kernel
theorem dX8_dayGoes_75 : decode cX8_dayGoes 75 = .ok (.iload_n 1, 1) := by decide +kernel
theorem dX8_dayGoes_76 : decode cX8_dayGoes 76 = .ok (.bipush 7, 2) := by decide +kernel
theorem dX8_dayGoes_78 : decode cX8_dayGoes 78 = .ok (.iconst 0, 1) := by decide +kernel
theorem dX8_dayGoes_79 : decode cX8_dayGoes 79 = .ok (.invokevirtual 96, 3) := by decide +kernel
theorem dX8_dayGoes_82 : decode cX8_dayGoes 82 = .ok (.aload_n 0, 1) := by decide +kernel
theorem dX8_dayGoes_83 : decode cX8_dayGoes 83 = .ok (.iload_n 1, 1) := by decide +kernel
theorem dX8_dayGoes_84 : decode cX8_dayGoes 84 = .ok (.iconst 3, 1) := by decide +kernel
theorem dX8_dayGoes_85 : decode cX8_dayGoes 85 = .ok (.aload_n 0, 1) := by decide +kernel
theorem dX8_dayGoes_86 : decode cX8_dayGoes 86 = .ok (.getfield 9, 3) := by decide +kernel
theorem dX8_dayGoes_89 : decode cX8_dayGoes 89 = .ok (.iconst 0, 1) := by decide +kernel
theorem dX8_dayGoes_90 : decode cX8_dayGoes 90 = .ok (.iaload, 1) := by decide +kernel
theorem dX8_dayGoes_91 : decode cX8_dayGoes 91 = .ok (.bipush 7, 2) := by decide +kernel
theorem dX8_dayGoes_93 : decode cX8_dayGoes 93 = .ok (.irem, 1) := by decide +kernel
theorem dX8_dayGoes_94 : decode cX8_dayGoes 94 = .ok (.ifCond .ne 24, 3) := by decide +kernel
theorem dX8_dayGoes_97 : decode cX8_dayGoes 97 = .ok (.bipush 20, 2) := by decide +kernel
theorem dX8_dayGoes_99 : decode cX8_dayGoes 99 = .ok (.aload_n 0, 1) := by decide +kernel
theorem dX8_dayGoes_100 : decode cX8_dayGoes 100 = .ok (.iload_n 1, 1) := by decide +kernel
theorem dX8_dayGoes_101 : decode cX8_dayGoes 101 = .ok (.iconst 3, 1) := by decide +kernel
theorem dX8_dayGoes_102 : decode cX8_dayGoes 102 = .ok (.invokevirtual 74, 3) := by decide +kernel
theorem dX8_dayGoes_105 : decode cX8_dayGoes 105 = .ok (.aload_n 0, 1) := by decide +kernel
theorem dX8_dayGoes_106 : decode cX8_dayGoes 106 = .ok (.iload_n 1, 1) := by decide +kernel
theorem dX8_dayGoes_107 : decode cX8_dayGoes 107 = .ok (.iconst 2, 1) := by decide +kernel
theorem dX8_dayGoes_108 : decode cX8_dayGoes 108 = .ok (.invokevirtual 74, 3) := by decide +kernel
theorem dX8_dayGoes_111 : decode cX8_dayGoes 111 = .ok (.iadd, 1) := by decide +kernel
theorem dX8_dayGoes_112 : decode cX8_dayGoes 112 = .ok (.invokestatic 125, 3) := by decide +kernel
theorem dX8_dayGoes_115 : decode cX8_dayGoes 115 = .ok (.goto 9, 3) := by decide +kernel
theorem dX8_dayGoes_118 : decode cX8_dayGoes 118 = .ok (.aload_n 0, 1) := by decide +kernel
theorem dX8_dayGoes_119 : decode cX8_dayGoes 119 = .ok (.iload_n 1, 1) := by decide +kernel
theorem dX8_dayGoes_120 : decode cX8_dayGoes 120 = .ok (.iconst 3, 1) := by decide +kernel
theorem dX8_dayGoes_121 : decode cX8_dayGoes 121 = .ok (.invokevirtual 74, 3) := by decide +kernel
theorem dX8_dayGoes_124 : decode cX8_dayGoes 124 = .ok (.invokevirtual 96, 3) := by decide +kernel
theorem dX8_dayGoes_127 : decode cX8_dayGoes 127 = .ok (.iinc 1 1, 3) := by decide +kernel
theorem dX8_dayGoes_130 : decode cX8_dayGoes 130 = .ok (.goto (-74), 3) := by decide +kernel
theorem dX8_dayGoes_133 : decode cX8_dayGoes 133 = .ok (.return_, 1) := by decide +kernel
theorem dX8_sum_0 : decode cX8_sum 0 = .ok (.iconst 0, 1) := by decide +kernel
theorem dX8_sum_1 : decode cX8_sum 1 = .ok (.istore_n 2, 1) := by decide +kernel
theorem dX8_sum_2 : decode cX8_sum 2 = .ok (.iconst 0, 1) := by decide +kernel
theorem dX8_sum_3 : decode cX8_sum 3 = .ok (.istore_n 3, 1) := by decide +kernel
theorem dX8_sum_4 : decode cX8_sum 4 = .ok (.iload_n 3, 1) := by decide +kernel
theorem dX8_sum_5 : decode cX8_sum 5 = .ok (.aload_n 0, 1) := by decide +kernel
theorem dX8_sum_6 : decode cX8_sum 6 = .ok (.getfield 9, 3) := by decide +kernel
theorem dX8_sum_9 : decode cX8_sum 9 = .ok (.iconst 1, 1) := by decide +kernel
theorem dX8_sum_10 : decode cX8_sum 10 = .ok (.iaload, 1) := by decide +kernel
theorem dX8_sum_11 : decode cX8_sum 11 = .ok (.if_icmp .ge 18, 3) := by decide +kernel
theorem dX8_sum_14 : decode cX8_sum 14 = .ok (.iload_n 2, 1) := by decide +kernel
theorem dX8_sum_15 : decode cX8_sum 15 = .ok (.aload_n 0, 1) := by decide +kernel
theorem dX8_sum_16 : decode cX8_sum 16 = .ok (.iload_n 3, 1) := by decide +kernel
theorem dX8_sum_17 : decode cX8_sum 17 = .ok (.iload_n 1, 1) := by decide +kernel
theorem dX8_sum_18 : decode cX8_sum 18 = .ok (.invokevirtual 74, 3) := by decide +kernel
theorem dX8_sum_21 : decode cX8_sum 21 = .ok (.iadd, 1) := by decide +kernel
theorem dX8_sum_22 : decode cX8_sum 22 = .ok (.istore_n 2, 1) := by decide +kernel
theorem dX8_sum_23 : decode cX8_sum 23 = .ok (.iinc 3 1, 3) := by decide +kernel
theorem dX8_sum_26 : decode cX8_sum 26 = .ok (.goto (-22), 3) := by decide +kernel
theorem dX8_sum_29 : decode cX8_sum 29 = .ok (.iload_n 2, 1) := by decide +kernel
theorem dX8_sum_30 : decode cX8_sum 30 = .ok (.ireturn, 1) := by decide +kernel
theorem dX8_goes_0 : decode cX8_goes 0 = .ok (.aload_n 0, 1) := by decide +kernel
theorem dX8_goes_1 : decode cX8_goes 1 = .ok (.iload_n 1, 1) := by decide +kernel
theorem dX8_goes_2 : decode cX8_goes 2 = .ok (.iconst 1, 1) := by decide +kernel
theorem dX8_goes_3 : decode cX8_goes 3 = .ok (.bipush 30, 2) := by decide +kernel
theorem dX8_goes_5 : decode cX8_goes 5 = .ok (.invokestatic 66, 3) := by decide +kernel
theorem dX8_goes_8 : decode cX8_goes 8 = .ok (.ifCond .ne 7, 3) := by decide +kernel
theorem dX8_goes_11 : decode cX8_goes 11 = .ok (.iconst 1, 1) := by decide +kernel
theorem dX8_goes_12 : decode cX8_goes 12 = .ok (.goto 4, 3) := by decide +kernel
theorem dX8_goes_15 : decode cX8_goes 15 = .ok (.iconst 0, 1) := by decide +kernel
theorem dX8_goes_16 : decode cX8_goes 16 = .ok (.iconst 1, 1) := by decide +kernel
theorem dX8_goes_17 : decode cX8_goes 17 = .ok (.iconst 0, 1) := by decide +kernel
theorem dX8_goes_18 : decode cX8_goes 18 = .ok (.invokevirtual 92, 3) := by decide +kernel
theorem dX8_goes_21 : decode cX8_goes 21 = .ok (.iconst 0, 1) := by decide +kernel
theorem dX8_goes_22 : decode cX8_goes 22 = .ok (.istore_n 2, 1) := by decide +kernel
theorem dX8_goes_23 : decode cX8_goes 23 = .ok (.iload_n 2, 1) := by decide +kernel
theorem dX8_goes_24 : decode cX8_goes 24 = .ok (.iload_n 1, 1) := by decide +kernel
theorem dX8_goes_25 : decode cX8_goes 25 = .ok (.if_icmp .ge 20, 3) := by decide +kernel
theorem dX8_goes_28 : decode cX8_goes 28 = .ok (.aload_n 0, 1) := by decide +kernel
theorem dX8_goes_29 : decode cX8_goes 29 = .ok (.getfield 41, 3) := by decide +kernel
theorem dX8_goes_32 : decode cX8_goes 32 = .ok (.ifCond .ne 13, 3) := by decide +kernel
theorem dX8_goes_35 : decode cX8_goes 35 = .ok (.aload_n 0, 1) := by decide +kernel
theorem dX8_goes_36 : decode cX8_goes 36 = .ok (.invokevirtual 156, 3) := by decide +kernel
theorem dX8_goes_39 : decode cX8_goes 39 = .ok (.iinc 2 1, 3) := by decide +kernel
theorem dX8_goes_42 : decode cX8_goes 42 = .ok (.goto (-19), 3) := by decide +kernel
theorem dX8_goes_45 : decode cX8_goes 45 = .ok (.aload_n 0, 1) := by decide +kernel
theorem dX8_goes_46 : decode cX8_goes 46 = .ok (.iconst 3, 1) := by decide +kernel
theorem dX8_goes_47 : decode cX8_goes 47 = .ok (.invokevirtual 159, 3) := by decide +kernel
theorem dX8_goes_50 : decode cX8_goes 50 = .ok (.ireturn, 1) := by decide +kernel
theorem dX8_days_0 : decode cX8_days 0 = .ok (.aload_n 0, 1) := by decide +kernel
theorem dX8_days_1 : decode cX8_days 1 = .ok (.invokevirtual 89, 3) := by decide +kernel
theorem dX8_days_4 : decode cX8_days 4 = .ok (.aload_n 0, 1) := by decide +kernel
theorem dX8_days_5 : decode cX8_days 5 = .ok (.aload_n 0, 1) := by decide +kernel
theorem dX8_days_6 : decode cX8_days 6 = .ok (.iload_n 1, 1) := by decide +kernel
theorem dX8_days_7 : decode cX8_days 7 = .ok (.invokevirtual 162, 3) := by decide +kernel
theorem dX8_days_10 : decode cX8_days 10 = .ok (.iconst 0, 1) := by decide +kernel
theorem dX8_days_11 : decode cX8_days 11 = .ok (.iconst 1, 1) := by decide +kernel
theorem dX8_days_12 : decode cX8_days 12 = .ok (.invokevirtual 100, 3) := by decide +kernel
theorem dX8_days_15 : decode cX8_days 15 = .ok (.ireturn, 1) := by decide +kernel
theorem dX8_tires_0 : decode cX8_tires 0 = .ok (.aload_n 0, 1) := by decide +kernel
theorem dX8_tires_1 : decode cX8_tires 1 = .ok (.aload_n 0, 1) := by decide +kernel
theorem dX8_tires_2 : decode cX8_tires 2 = .ok (.iload_n 1, 1) := by decide +kernel
theorem dX8_tires_3 : decode cX8_tires 3 = .ok (.invokevirtual 115, 3) := by decide +kernel
theorem dX8_tires_6 : decode cX8_tires 6 = .ok (.ifCond .eq 15, 3) := by decide +kernel
theorem dX8_tires_9 : decode cX8_tires 9 = .ok (.aload_n 0, 1) := by decide +kernel
theorem dX8_tires_10 : decode cX8_tires 10 = .ok (.iload_n 2, 1) := by decide +kernel
theorem dX8_tires_11 : decode cX8_tires 11 = .ok (.invokevirtual 104, 3) := by decide +kernel
theorem dX8_tires_14 : decode cX8_tires 14 = .ok (.ifCond .eq 7, 3) := by decide +kernel
theorem dX8_tires_17 : decode cX8_tires 17 = .ok (.iconst 0, 1) := by decide +kernel
theorem dX8_tires_18 : decode cX8_tires 18 = .ok (.goto 4, 3) := by decide +kernel
theorem dX8_tires_21 : decode cX8_tires 21 = .ok (.iconst 1, 1) := by decide +kernel
theorem dX8_tires_22 : decode cX8_tires 22 = .ok (.putfield 38, 3) := by decide +kernel
theorem dX8_tires_25 : decode cX8_tires 25 = .ok (.aload_n 0, 1) := by decide +kernel
theorem dX8_tires_26 : decode cX8_tires 26 = .ok (.getfield 38, 3) := by decide +kernel
theorem dX8_tires_29 : decode cX8_tires 29 = .ok (.ifCond .ne 12, 3) := by decide +kernel
theorem dX8_tires_32 : decode cX8_tires 32 = .ok (.aload_n 0, 1) := by decide +kernel
theorem dX8_tires_33 : decode cX8_tires 33 = .ok (.iload_n 1, 1) := by decide +kernel
theorem dX8_tires_34 : decode cX8_tires 34 = .ok (.iload_n 2, 1) := by decide +kernel
theorem dX8_tires_35 : decode cX8_tires 35 = .ok (.invokevirtual 86, 3) := by decide +kernel
theorem dX8_tires_38 : decode cX8_tires 38 = .ok (.goto 4, 3) := by decide +kernel
theorem dX8_tires_41 : decode cX8_tires 41 = .ok (.iconst 0, 1) := by decide +kernel
theorem dX8_tires_42 : decode cX8_tires 42 = .ok (.ireturn, 1) := by decide +kernel
theorem dX8_canCarry_0 : decode cX8_canCarry 0 = .ok (.aload_n 0, 1) := by decide +kernel
theorem dX8_canCarry_1 : decode cX8_canCarry 1 = .ok (.aload_n 0, 1) := by decide +kernel
theorem dX8_canCarry_2 : decode cX8_canCarry 2 = .ok (.iload_n 1, 1) := by decide +kernel
theorem dX8_canCarry_3 : decode cX8_canCarry 3 = .ok (.invokevirtual 115, 3) := by decide +kernel
theorem dX8_canCarry_6 : decode cX8_canCarry 6 = .ok (.ifCond .eq 15, 3) := by decide +kernel
theorem dX8_canCarry_9 : decode cX8_canCarry 9 = .ok (.aload_n 0, 1) := by decide +kernel
theorem dX8_canCarry_10 : decode cX8_canCarry 10 = .ok (.iload_n 2, 1) := by decide +kernel
theorem dX8_canCarry_11 : decode cX8_canCarry 11 = .ok (.invokevirtual 104, 3) := by decide +kernel
theorem dX8_canCarry_14 : decode cX8_canCarry 14 = .ok (.ifCond .eq 7, 3) := by decide +kernel
theorem dX8_canCarry_17 : decode cX8_canCarry 17 = .ok (.iconst 0, 1) := by decide +kernel
theorem dX8_canCarry_18 : decode cX8_canCarry 18 = .ok (.goto 4, 3) := by decide +kernel
theorem dX8_canCarry_21 : decode cX8_canCarry 21 = .ok (.iconst 1, 1) := by decide +kernel
theorem dX8_canCarry_22 : decode cX8_canCarry 22 = .ok (.putfield 38, 3) := by decide +kernel
theorem dX8_canCarry_25 : decode cX8_canCarry 25 = .ok (.aload_n 0, 1) := by decide +kernel
theorem dX8_canCarry_26 : decode cX8_canCarry 26 = .ok (.getfield 38, 3) := by decide +kernel
theorem dX8_canCarry_29 : decode cX8_canCarry 29 = .ok (.ifCond .ne 12, 3) := by decide +kernel
theorem dX8_canCarry_32 : decode cX8_canCarry 32 = .ok (.aload_n 0, 1) := by decide +kernel
theorem dX8_canCarry_33 : decode cX8_canCarry 33 = .ok (.iload_n 1, 1) := by decide +kernel
theorem dX8_canCarry_34 : decode cX8_canCarry 34 = .ok (.iload_n 2, 1) := by decide +kernel
theorem dX8_canCarry_35 : decode cX8_canCarry 35 = .ok (.invokevirtual 165, 3) := by decide +kernel
theorem dX8_canCarry_38 : decode cX8_canCarry 38 = .ok (.goto 4, 3) := by decide +kernel
theorem dX8_canCarry_41 : decode cX8_canCarry 41 = .ok (.iconst 0, 1) := by decide +kernel
theorem dX8_canCarry_42 : decode cX8_canCarry 42 = .ok (.ireturn, 1) := by decide +kernel
theorem dX8_mayCarry_0 : decode cX8_mayCarry 0 = .ok (.aload_n 0, 1) := by decide +kernel
theorem dX8_mayCarry_1 : decode cX8_mayCarry 1 = .ok (.aload_n 0, 1) := by decide +kernel
theorem dX8_mayCarry_2 : decode cX8_mayCarry 2 = .ok (.iload_n 1, 1) := by decide +kernel
theorem dX8_mayCarry_3 : decode cX8_mayCarry 3 = .ok (.invokevirtual 115, 3) := by decide +kernel
theorem dX8_mayCarry_6 : decode cX8_mayCarry 6 = .ok (.ifCond .eq 7, 3) := by decide +kernel
theorem dX8_mayCarry_9 : decode cX8_mayCarry 9 = .ok (.iconst 0, 1) := by decide +kernel
theorem dX8_mayCarry_10 : decode cX8_mayCarry 10 = .ok (.goto 4, 3) := by decide +kernel
theorem dX8_mayCarry_13 : decode cX8_mayCarry 13 = .ok (.iconst 1, 1) := by decide +kernel
theorem dX8_mayCarry_14 : decode cX8_mayCarry 14 = .ok (.putfield 38, 3) := by decide +kernel
theorem dX8_mayCarry_17 : decode cX8_mayCarry 17 = .ok (.aload_n 0, 1) := by decide +kernel
theorem dX8_mayCarry_18 : decode cX8_mayCarry 18 = .ok (.invokevirtual 137, 3) := by decide +kernel
theorem dX8_mayCarry_21 : decode cX8_mayCarry 21 = .ok (.istore_n 2, 1) := by decide +kernel
theorem dX8_mayCarry_22 : decode cX8_mayCarry 22 = .ok (.aload_n 0, 1) := by decide +kernel
theorem dX8_mayCarry_23 : decode cX8_mayCarry 23 = .ok (.getfield 38, 3) := by decide +kernel
theorem dX8_mayCarry_26 : decode cX8_mayCarry 26 = .ok (.ifCond .ne 29, 3) := by decide +kernel
theorem dX8_mayCarry_29 : decode cX8_mayCarry 29 = .ok (.iload_n 2, 1) := by decide +kernel
theorem dX8_mayCarry_30 : decode cX8_mayCarry 30 = .ok (.ifCond .lt 25, 3) := by decide +kernel
theorem dX8_mayCarry_33 : decode cX8_mayCarry 33 = .ok (.aload_n 0, 1) := by decide +kernel
theorem dX8_mayCarry_34 : decode cX8_mayCarry 34 = .ok (.iload_n 2, 1) := by decide +kernel
theorem dX8_mayCarry_35 : decode cX8_mayCarry 35 = .ok (.iconst 4, 1) := by decide +kernel
theorem dX8_mayCarry_36 : decode cX8_mayCarry 36 = .ok (.invokevirtual 74, 3) := by decide +kernel
theorem dX8_mayCarry_39 : decode cX8_mayCarry 39 = .ok (.bipush 12, 2) := by decide +kernel
theorem dX8_mayCarry_41 : decode cX8_mayCarry 41 = .ok (.if_icmp .gt 14, 3) := by decide +kernel
theorem dX8_mayCarry_44 : decode cX8_mayCarry 44 = .ok (.aload_n 0, 1) := by decide +kernel
theorem dX8_mayCarry_45 : decode cX8_mayCarry 45 = .ok (.iload_n 2, 1) := by decide +kernel
theorem dX8_mayCarry_46 : decode cX8_mayCarry 46 = .ok (.iconst 5, 1) := by decide +kernel
theorem dX8_mayCarry_47 : decode cX8_mayCarry 47 = .ok (.invokevirtual 74, 3) := by decide +kernel
theorem dX8_mayCarry_50 : decode cX8_mayCarry 50 = .ok (.bipush 8, 2) := by decide +kernel
theorem dX8_mayCarry_52 : decode cX8_mayCarry 52 = .ok (.if_icmp .le 5, 3) := by decide +kernel
theorem dX8_mayCarry_55 : decode cX8_mayCarry 55 = .ok (.iconst 0, 1) := by decide +kernel
theorem dX8_mayCarry_56 : decode cX8_mayCarry 56 = .ok (.ireturn, 1) := by decide +kernel
theorem dX8_mayCarry_57 : decode cX8_mayCarry 57 = .ok (.bipush 9, 2) := by decide +kernel
theorem dX8_mayCarry_59 : decode cX8_mayCarry 59 = .ok (.aload_n 0, 1) := by decide +kernel
theorem dX8_mayCarry_60 : decode cX8_mayCarry 60 = .ok (.getfield 9, 3) := by decide +kernel
theorem dX8_mayCarry_63 : decode cX8_mayCarry 63 = .ok (.iconst 4, 1) := by decide +kernel
theorem dX8_mayCarry_64 : decode cX8_mayCarry 64 = .ok (.iaload, 1) := by decide +kernel
theorem dX8_mayCarry_65 : decode cX8_mayCarry 65 = .ok (.invokestatic 125, 3) := by decide +kernel
theorem dX8_mayCarry_68 : decode cX8_mayCarry 68 = .ok (.aload_n 0, 1) := by decide +kernel
theorem dX8_mayCarry_69 : decode cX8_mayCarry 69 = .ok (.iload_n 2, 1) := by decide +kernel
theorem dX8_mayCarry_70 : decode cX8_mayCarry 70 = .ok (.iconst 3, 1) := by decide +kernel
theorem dX8_mayCarry_71 : decode cX8_mayCarry 71 = .ok (.invokevirtual 74, 3) := by decide +kernel
theorem dX8_mayCarry_74 : decode cX8_mayCarry 74 = .ok (.invokestatic 125, 3) := by decide +kernel
theorem dX8_mayCarry_77 : decode cX8_mayCarry 77 = .ok (.istore_n 3, 1) := by decide +kernel
theorem dX8_mayCarry_78 : decode cX8_mayCarry 78 = .ok (.iload_n 3, 1) := by decide +kernel
theorem dX8_mayCarry_79 : decode cX8_mayCarry 79 = .ok (.aload_n 0, 1) := by decide +kernel
theorem dX8_mayCarry_80 : decode cX8_mayCarry 80 = .ok (.iload_n 2, 1) := by decide +kernel
theorem dX8_mayCarry_81 : decode cX8_mayCarry 81 = .ok (.invokevirtual 111, 3) := by decide +kernel
theorem dX8_mayCarry_84 : decode cX8_mayCarry 84 = .ok (.aload_n 0, 1) := by decide +kernel
theorem dX8_mayCarry_85 : decode cX8_mayCarry 85 = .ok (.iload_n 1, 1) := by decide +kernel
theorem dX8_mayCarry_86 : decode cX8_mayCarry 86 = .ok (.iload_n 2, 1) := by decide +kernel
theorem dX8_mayCarry_87 : decode cX8_mayCarry 87 = .ok (.invokevirtual 165, 3) := by decide +kernel
theorem dX8_mayCarry_90 : decode cX8_mayCarry 90 = .ok (.invokestatic 125, 3) := by decide +kernel
theorem dX8_mayCarry_93 : decode cX8_mayCarry 93 = .ok (.invokestatic 125, 3) := by decide +kernel
theorem dX8_mayCarry_96 : decode cX8_mayCarry 96 = .ok (.ireturn, 1) := by decide +kernel
theorem dX8_bestCarrier_0 : decode cX8_bestCarrier 0 = .ok (.aload_n 0, 1) := by decide +kernel
theorem dX8_bestCarrier_1 : decode cX8_bestCarrier 1 = .ok (.aload_n 0, 1) := by decide +kernel
theorem dX8_bestCarrier_2 : decode cX8_bestCarrier 2 = .ok (.iload_n 1, 1) := by decide +kernel
theorem dX8_bestCarrier_3 : decode cX8_bestCarrier 3 = .ok (.invokevirtual 104, 3) := by decide +kernel
theorem dX8_bestCarrier_6 : decode cX8_bestCarrier 6 = .ok (.ifCond .eq 7, 3) := by decide +kernel
theorem dX8_bestCarrier_9 : decode cX8_bestCarrier 9 = .ok (.iconst 0, 1) := by decide +kernel
theorem dX8_bestCarrier_10 : decode cX8_bestCarrier 10 = .ok (.goto 4, 3) := by decide +kernel
theorem dX8_bestCarrier_13 : decode cX8_bestCarrier 13 = .ok (.iconst 1, 1) := by decide +kernel
theorem dX8_bestCarrier_14 : decode cX8_bestCarrier 14 = .ok (.putfield 38, 3) := by decide +kernel
theorem dX8_bestCarrier_17 : decode cX8_bestCarrier 17 = .ok (.iconst (-1), 1) := by decide +kernel
theorem dX8_bestCarrier_18 : decode cX8_bestCarrier 18 = .ok (.istore_n 2, 1) := by decide +kernel
theorem dX8_bestCarrier_19 : decode cX8_bestCarrier 19 = .ok (.iconst 0, 1) := by decide +kernel
theorem dX8_bestCarrier_20 : decode cX8_bestCarrier 20 = .ok (.istore_n 3, 1) := by decide +kernel
theorem dX8_bestCarrier_21 : decode cX8_bestCarrier 21 = .ok (.iload_n 3, 1) := by decide +kernel
theorem dX8_bestCarrier_22 : decode cX8_bestCarrier 22 = .ok (.aload_n 0, 1) := by decide +kernel
theorem dX8_bestCarrier_23 : decode cX8_bestCarrier 23 = .ok (.getfield 9, 3) := by decide +kernel
theorem dX8_bestCarrier_26 : decode cX8_bestCarrier 26 = .ok (.iconst 2, 1) := by decide +kernel
theorem dX8_bestCarrier_27 : decode cX8_bestCarrier 27 = .ok (.iaload, 1) := by decide +kernel
theorem dX8_bestCarrier_28 : decode cX8_bestCarrier 28 = .ok (.if_icmp .ge 92, 3) := by decide +kernel
theorem dX8_bestCarrier_31 : decode cX8_bestCarrier 31 = .ok (.aload_n 0, 1) := by decide +kernel
theorem dX8_bestCarrier_32 : decode cX8_bestCarrier 32 = .ok (.getfield 38, 3) := by decide +kernel
theorem dX8_bestCarrier_35 : decode cX8_bestCarrier 35 = .ok (.ifCond .ne 85, 3) := by decide +kernel
theorem dX8_bestCarrier_38 : decode cX8_bestCarrier 38 = .ok (.aload_n 0, 1) := by decide +kernel
theorem dX8_bestCarrier_39 : decode cX8_bestCarrier 39 = .ok (.iload_n 3, 1) := by decide +kernel
theorem dX8_bestCarrier_40 : decode cX8_bestCarrier 40 = .ok (.iload_n 1, 1) := by decide +kernel
theorem dX8_bestCarrier_41 : decode cX8_bestCarrier 41 = .ok (.invokevirtual 165, 3) := by decide +kernel
theorem dX8_bestCarrier_44 : decode cX8_bestCarrier 44 = .ok (.istore 4, 2) := by decide +kernel
theorem dX8_bestCarrier_46 : decode cX8_bestCarrier 46 = .ok (.iload_n 2, 1) := by decide +kernel
theorem dX8_bestCarrier_47 : decode cX8_bestCarrier 47 = .ok (.iconst (-1), 1) := by decide +kernel
theorem dX8_bestCarrier_48 : decode cX8_bestCarrier 48 = .ok (.if_icmp .ne 7, 3) := by decide +kernel
theorem dX8_bestCarrier_51 : decode cX8_bestCarrier 51 = .ok (.iconst 1, 1) := by decide +kernel
theorem dX8_bestCarrier_52 : decode cX8_bestCarrier 52 = .ok (.goto 12, 3) := by decide +kernel
theorem dX8_bestCarrier_55 : decode cX8_bestCarrier 55 = .ok (.iload 4, 2) := by decide +kernel
theorem dX8_bestCarrier_57 : decode cX8_bestCarrier 57 = .ok (.aload_n 0, 1) := by decide +kernel
theorem dX8_bestCarrier_58 : decode cX8_bestCarrier 58 = .ok (.iload_n 2, 1) := by decide +kernel
theorem dX8_bestCarrier_59 : decode cX8_bestCarrier 59 = .ok (.iload_n 1, 1) := by decide +kernel
theorem dX8_bestCarrier_60 : decode cX8_bestCarrier 60 = .ok (.invokevirtual 165, 3) := by decide +kernel
theorem dX8_bestCarrier_63 : decode cX8_bestCarrier 63 = .ok (.isub, 1) := by decide +kernel
theorem dX8_bestCarrier_64 : decode cX8_bestCarrier 64 = .ok (.istore 5, 2) := by decide +kernel
theorem dX8_bestCarrier_66 : decode cX8_bestCarrier 66 = .ok (.iload 5, 2) := by decide +kernel
theorem dX8_bestCarrier_68 : decode cX8_bestCarrier 68 = .ok (.ifCond .gt 23, 3) := by decide +kernel
theorem dX8_bestCarrier_71 : decode cX8_bestCarrier 71 = .ok (.iload 5, 2) := by decide +kernel
theorem dX8_bestCarrier_73 : decode cX8_bestCarrier 73 = .ok (.ifCond .ne 22, 3) := by decide +kernel
theorem dX8_bestCarrier_76 : decode cX8_bestCarrier 76 = .ok (.aload_n 0, 1) := by decide +kernel
theorem dX8_bestCarrier_77 : decode cX8_bestCarrier 77 = .ok (.iload_n 3, 1) := by decide +kernel
theorem dX8_bestCarrier_78 : decode cX8_bestCarrier 78 = .ok (.iconst 2, 1) := by decide +kernel
theorem dX8_bestCarrier_79 : decode cX8_bestCarrier 79 = .ok (.invokevirtual 83, 3) := by decide +kernel
theorem dX8_bestCarrier_82 : decode cX8_bestCarrier 82 = .ok (.aload_n 0, 1) := by decide +kernel
theorem dX8_bestCarrier_83 : decode cX8_bestCarrier 83 = .ok (.iload_n 2, 1) := by decide +kernel
theorem dX8_bestCarrier_84 : decode cX8_bestCarrier 84 = .ok (.iconst 2, 1) := by decide +kernel
theorem dX8_bestCarrier_85 : decode cX8_bestCarrier 85 = .ok (.invokevirtual 83, 3) := by decide +kernel
theorem dX8_bestCarrier_88 : decode cX8_bestCarrier 88 = .ok (.if_icmp .ge 7, 3) := by decide +kernel
theorem dX8_bestCarrier_91 : decode cX8_bestCarrier 91 = .ok (.iconst 1, 1) := by decide +kernel
theorem dX8_bestCarrier_92 : decode cX8_bestCarrier 92 = .ok (.goto 4, 3) := by decide +kernel
theorem dX8_bestCarrier_95 : decode cX8_bestCarrier 95 = .ok (.iconst 0, 1) := by decide +kernel
theorem dX8_bestCarrier_96 : decode cX8_bestCarrier 96 = .ok (.istore 6, 2) := by decide +kernel
theorem dX8_bestCarrier_98 : decode cX8_bestCarrier 98 = .ok (.iload 4, 2) := by decide +kernel
theorem dX8_bestCarrier_100 : decode cX8_bestCarrier 100 = .ok (.ifCond .le 12, 3) := by decide +kernel
theorem dX8_bestCarrier_103 : decode cX8_bestCarrier 103 = .ok (.iload 6, 2) := by decide +kernel
theorem dX8_bestCarrier_105 : decode cX8_bestCarrier 105 = .ok (.ifCond .eq 7, 3) := by decide +kernel
theorem dX8_bestCarrier_108 : decode cX8_bestCarrier 108 = .ok (.iload_n 3, 1) := by decide +kernel
theorem dX8_bestCarrier_109 : decode cX8_bestCarrier 109 = .ok (.goto 4, 3) := by decide +kernel
theorem dX8_bestCarrier_112 : decode cX8_bestCarrier 112 = .ok (.iload_n 2, 1) := by decide +kernel
theorem dX8_bestCarrier_113 : decode cX8_bestCarrier 113 = .ok (.istore_n 2, 1) := by decide +kernel
theorem dX8_bestCarrier_114 : decode cX8_bestCarrier 114 = .ok (.iinc 3 1, 3) := by decide +kernel
theorem dX8_bestCarrier_117 : decode cX8_bestCarrier 117 = .ok (.goto (-96), 3) := by decide +kernel
theorem dX8_bestCarrier_120 : decode cX8_bestCarrier 120 = .ok (.aload_n 0, 1) := by decide +kernel
theorem dX8_bestCarrier_121 : decode cX8_bestCarrier 121 = .ok (.aload_n 0, 1) := by decide +kernel
theorem dX8_bestCarrier_122 : decode cX8_bestCarrier 122 = .ok (.getfield 38, 3) := by decide +kernel
theorem dX8_bestCarrier_125 : decode cX8_bestCarrier 125 = .ok (.ifCond .eq 10, 3) := by decide +kernel
theorem dX8_bestCarrier_128 : decode cX8_bestCarrier 128 = .ok (.aload_n 0, 1) := by decide +kernel
theorem dX8_bestCarrier_129 : decode cX8_bestCarrier 129 = .ok (.getfield 38, 3) := by decide +kernel
theorem dX8_bestCarrier_132 : decode cX8_bestCarrier 132 = .ok (.goto 13, 3) := by decide +kernel
theorem dX8_bestCarrier_135 : decode cX8_bestCarrier 135 = .ok (.iload_n 2, 1) := by decide +kernel
theorem dX8_bestCarrier_136 : decode cX8_bestCarrier 136 = .ok (.iconst (-1), 1) := by decide +kernel
theorem dX8_bestCarrier_137 : decode cX8_bestCarrier 137 = .ok (.if_icmp .ne 7, 3) := by decide +kernel
theorem dX8_bestCarrier_140 : decode cX8_bestCarrier 140 = .ok (.iconst 2, 1) := by decide +kernel
theorem dX8_bestCarrier_141 : decode cX8_bestCarrier 141 = .ok (.goto 4, 3) := by decide +kernel
theorem dX8_bestCarrier_144 : decode cX8_bestCarrier 144 = .ok (.iconst 0, 1) := by decide +kernel
theorem dX8_bestCarrier_145 : decode cX8_bestCarrier 145 = .ok (.putfield 38, 3) := by decide +kernel
theorem dX8_bestCarrier_148 : decode cX8_bestCarrier 148 = .ok (.aload_n 0, 1) := by decide +kernel
theorem dX8_bestCarrier_149 : decode cX8_bestCarrier 149 = .ok (.getfield 38, 3) := by decide +kernel
theorem dX8_bestCarrier_152 : decode cX8_bestCarrier 152 = .ok (.ifCond .ne 7, 3) := by decide +kernel
theorem dX8_bestCarrier_155 : decode cX8_bestCarrier 155 = .ok (.iload_n 2, 1) := by decide +kernel
theorem dX8_bestCarrier_156 : decode cX8_bestCarrier 156 = .ok (.goto 4, 3) := by decide +kernel
theorem dX8_bestCarrier_159 : decode cX8_bestCarrier 159 = .ok (.iconst 0, 1) := by decide +kernel
theorem dX8_bestCarrier_160 : decode cX8_bestCarrier 160 = .ok (.ireturn, 1) := by decide +kernel
theorem dX8_isQuiet_0 : decode cX8_isQuiet 0 = .ok (.aload_n 0, 1) := by decide +kernel
theorem dX8_isQuiet_1 : decode cX8_isQuiet 1 = .ok (.aload_n 0, 1) := by decide +kernel
theorem dX8_isQuiet_2 : decode cX8_isQuiet 2 = .ok (.iload_n 1, 1) := by decide +kernel
theorem dX8_isQuiet_3 : decode cX8_isQuiet 3 = .ok (.invokevirtual 104, 3) := by decide +kernel
theorem dX8_isQuiet_6 : decode cX8_isQuiet 6 = .ok (.ifCond .eq 7, 3) := by decide +kernel
theorem dX8_isQuiet_9 : decode cX8_isQuiet 9 = .ok (.iconst 0, 1) := by decide +kernel
theorem dX8_isQuiet_10 : decode cX8_isQuiet 10 = .ok (.goto 4, 3) := by decide +kernel
theorem dX8_isQuiet_13 : decode cX8_isQuiet 13 = .ok (.iconst 1, 1) := by decide +kernel
theorem dX8_isQuiet_14 : decode cX8_isQuiet 14 = .ok (.putfield 38, 3) := by decide +kernel
theorem dX8_isQuiet_17 : decode cX8_isQuiet 17 = .ok (.aload_n 0, 1) := by decide +kernel
theorem dX8_isQuiet_18 : decode cX8_isQuiet 18 = .ok (.getfield 38, 3) := by decide +kernel
theorem dX8_isQuiet_21 : decode cX8_isQuiet 21 = .ok (.ifCond .ne 15, 3) := by decide +kernel
theorem dX8_isQuiet_24 : decode cX8_isQuiet 24 = .ok (.aload_n 0, 1) := by decide +kernel
theorem dX8_isQuiet_25 : decode cX8_isQuiet 25 = .ok (.iload_n 1, 1) := by decide +kernel
theorem dX8_isQuiet_26 : decode cX8_isQuiet 26 = .ok (.invokevirtual 111, 3) := by decide +kernel
theorem dX8_isQuiet_29 : decode cX8_isQuiet 29 = .ok (.ifCond .le 7, 3) := by decide +kernel
theorem dX8_isQuiet_32 : decode cX8_isQuiet 32 = .ok (.iconst 1, 1) := by decide +kernel
theorem dX8_isQuiet_33 : decode cX8_isQuiet 33 = .ok (.goto 4, 3) := by decide +kernel
theorem dX8_isQuiet_36 : decode cX8_isQuiet 36 = .ok (.iconst 0, 1) := by decide +kernel
theorem dX8_isQuiet_37 : decode cX8_isQuiet 37 = .ok (.ireturn, 1) := by decide +kernel
theorem dX8_isAhead_0 : decode cX8_isAhead 0 = .ok (.aload_n 0, 1) := by decide +kernel
theorem dX8_isAhead_1 : decode cX8_isAhead 1 = .ok (.iload_n 1, 1) := by decide +kernel
theorem dX8_isAhead_2 : decode cX8_isAhead 2 = .ok (.iconst 4, 1) := by decide +kernel
theorem dX8_isAhead_3 : decode cX8_isAhead 3 = .ok (.invokevirtual 74, 3) := by decide +kernel
theorem dX8_isAhead_6 : decode cX8_isAhead 6 = .ok (.aload_n 0, 1) := by decide +kernel
theorem dX8_isAhead_7 : decode cX8_isAhead 7 = .ok (.iload_n 2, 1) := by decide +kernel
theorem dX8_isAhead_8 : decode cX8_isAhead 8 = .ok (.iconst 4, 1) := by decide +kernel
theorem dX8_isAhead_9 : decode cX8_isAhead 9 = .ok (.invokevirtual 74, 3) := by decide +kernel
theorem dX8_isAhead_12 : decode cX8_isAhead 12 = .ok (.isub, 1) := by decide +kernel
theorem dX8_isAhead_13 : decode cX8_isAhead 13 = .ok (.istore_n 3, 1) := by decide +kernel
theorem dX8_isAhead_14 : decode cX8_isAhead 14 = .ok (.aload_n 0, 1) := by decide +kernel
theorem dX8_isAhead_15 : decode cX8_isAhead 15 = .ok (.iload_n 1, 1) := by decide +kernel
theorem dX8_isAhead_16 : decode cX8_isAhead 16 = .ok (.iconst 3, 1) := by decide +kernel
theorem dX8_isAhead_17 : decode cX8_isAhead 17 = .ok (.invokevirtual 74, 3) := by decide +kernel
theorem dX8_isAhead_20 : decode cX8_isAhead 20 = .ok (.aload_n 0, 1) := by decide +kernel
theorem dX8_isAhead_21 : decode cX8_isAhead 21 = .ok (.iload_n 2, 1) := by decide +kernel
theorem dX8_isAhead_22 : decode cX8_isAhead 22 = .ok (.iconst 3, 1) := by decide +kernel
theorem dX8_isAhead_23 : decode cX8_isAhead 23 = .ok (.invokevirtual 74, 3) := by decide +kernel
theorem dX8_isAhead_26 : decode cX8_isAhead 26 = .ok (.isub, 1) := by decide +kernel
theorem dX8_isAhead_27 : decode cX8_isAhead 27 = .ok (.istore 4, 2) := by decide +kernel
theorem dX8_isAhead_29 : decode cX8_isAhead 29 = .ok (.iload_n 3, 1) := by decide +kernel
theorem dX8_isAhead_30 : decode cX8_isAhead 30 = .ok (.ifCond .eq 15, 3) := by decide +kernel
theorem dX8_isAhead_33 : decode cX8_isAhead 33 = .ok (.iload_n 3, 1) := by decide +kernel
theorem dX8_isAhead_34 : decode cX8_isAhead 34 = .ok (.ifCond .le 7, 3) := by decide +kernel
theorem dX8_isAhead_37 : decode cX8_isAhead 37 = .ok (.iconst 1, 1) := by decide +kernel
theorem dX8_isAhead_38 : decode cX8_isAhead 38 = .ok (.goto 35, 3) := by decide +kernel
theorem dX8_isAhead_41 : decode cX8_isAhead 41 = .ok (.iconst 0, 1) := by decide +kernel
theorem dX8_isAhead_42 : decode cX8_isAhead 42 = .ok (.goto 31, 3) := by decide +kernel
theorem dX8_isAhead_45 : decode cX8_isAhead 45 = .ok (.iload 4, 2) := by decide +kernel
theorem dX8_isAhead_47 : decode cX8_isAhead 47 = .ok (.ifCond .eq 16, 3) := by decide +kernel
theorem dX8_isAhead_50 : decode cX8_isAhead 50 = .ok (.iload 4, 2) := by decide +kernel
theorem dX8_isAhead_52 : decode cX8_isAhead 52 = .ok (.ifCond .le 7, 3) := by decide +kernel
theorem dX8_isAhead_55 : decode cX8_isAhead 55 = .ok (.iconst 1, 1) := by decide +kernel
theorem dX8_isAhead_56 : decode cX8_isAhead 56 = .ok (.goto 17, 3) := by decide +kernel
theorem dX8_isAhead_59 : decode cX8_isAhead 59 = .ok (.iconst 0, 1) := by decide +kernel
theorem dX8_isAhead_60 : decode cX8_isAhead 60 = .ok (.goto 13, 3) := by decide +kernel
theorem dX8_isAhead_63 : decode cX8_isAhead 63 = .ok (.iload_n 1, 1) := by decide +kernel
theorem dX8_isAhead_64 : decode cX8_isAhead 64 = .ok (.iload_n 2, 1) := by decide +kernel
theorem dX8_isAhead_65 : decode cX8_isAhead 65 = .ok (.if_icmp .ge 7, 3) := by decide +kernel
theorem dX8_isAhead_68 : decode cX8_isAhead 68 = .ok (.iconst 1, 1) := by decide +kernel
theorem dX8_isAhead_69 : decode cX8_isAhead 69 = .ok (.goto 4, 3) := by decide +kernel
theorem dX8_isAhead_72 : decode cX8_isAhead 72 = .ok (.iconst 0, 1) := by decide +kernel
theorem dX8_isAhead_73 : decode cX8_isAhead 73 = .ok (.ireturn, 1) := by decide +kernel
theorem dX8_ranked_0 : decode cX8_ranked 0 = .ok (.iconst (-1), 1) := by decide +kernel
theorem dX8_ranked_1 : decode cX8_ranked 1 = .ok (.istore_n 2, 1) := by decide +kernel
theorem dX8_ranked_2 : decode cX8_ranked 2 = .ok (.iconst 0, 1) := by decide +kernel
theorem dX8_ranked_3 : decode cX8_ranked 3 = .ok (.istore_n 3, 1) := by decide +kernel
theorem dX8_ranked_4 : decode cX8_ranked 4 = .ok (.iload_n 3, 1) := by decide +kernel
theorem dX8_ranked_5 : decode cX8_ranked 5 = .ok (.aload_n 0, 1) := by decide +kernel
theorem dX8_ranked_6 : decode cX8_ranked 6 = .ok (.getfield 9, 3) := by decide +kernel
theorem dX8_ranked_9 : decode cX8_ranked 9 = .ok (.iconst 1, 1) := by decide +kernel
theorem dX8_ranked_10 : decode cX8_ranked 10 = .ok (.iaload, 1) := by decide +kernel
theorem dX8_ranked_11 : decode cX8_ranked 11 = .ok (.if_icmp .ge 70, 3) := by decide +kernel
theorem dX8_ranked_14 : decode cX8_ranked 14 = .ok (.iconst 0, 1) := by decide +kernel
theorem dX8_ranked_15 : decode cX8_ranked 15 = .ok (.istore 4, 2) := by decide +kernel
theorem dX8_ranked_17 : decode cX8_ranked 17 = .ok (.iconst 0, 1) := by decide +kernel
theorem dX8_ranked_18 : decode cX8_ranked 18 = .ok (.istore 5, 2) := by decide +kernel
theorem dX8_ranked_20 : decode cX8_ranked 20 = .ok (.iload 5, 2) := by decide +kernel
theorem dX8_ranked_22 : decode cX8_ranked 22 = .ok (.aload_n 0, 1) := by decide +kernel
theorem dX8_ranked_23 : decode cX8_ranked 23 = .ok (.getfield 9, 3) := by decide +kernel
theorem dX8_ranked_26 : decode cX8_ranked 26 = .ok (.iconst 1, 1) := by decide +kernel
theorem dX8_ranked_27 : decode cX8_ranked 27 = .ok (.iaload, 1) := by decide +kernel
theorem dX8_ranked_28 : decode cX8_ranked 28 = .ok (.if_icmp .ge 35, 3) := by decide +kernel
theorem dX8_ranked_31 : decode cX8_ranked 31 = .ok (.iload 4, 2) := by decide +kernel
theorem dX8_ranked_33 : decode cX8_ranked 33 = .ok (.iload 5, 2) := by decide +kernel
theorem dX8_ranked_35 : decode cX8_ranked 35 = .ok (.iload_n 3, 1) := by decide +kernel
theorem dX8_ranked_36 : decode cX8_ranked 36 = .ok (.if_icmp .eq 17, 3) := by decide +kernel
theorem dX8_ranked_39 : decode cX8_ranked 39 = .ok (.aload_n 0, 1) := by decide +kernel
theorem dX8_ranked_40 : decode cX8_ranked 40 = .ok (.iload 5, 2) := by decide +kernel
theorem dX8_ranked_42 : decode cX8_ranked 42 = .ok (.iload_n 3, 1) := by decide +kernel
theorem dX8_ranked_43 : decode cX8_ranked 43 = .ok (.invokevirtual 168, 3) := by decide +kernel
theorem dX8_ranked_46 : decode cX8_ranked 46 = .ok (.ifCond .eq 7, 3) := by decide +kernel
theorem dX8_ranked_49 : decode cX8_ranked 49 = .ok (.iconst 1, 1) := by decide +kernel
theorem dX8_ranked_50 : decode cX8_ranked 50 = .ok (.goto 4, 3) := by decide +kernel
theorem dX8_ranked_53 : decode cX8_ranked 53 = .ok (.iconst 0, 1) := by decide +kernel
theorem dX8_ranked_54 : decode cX8_ranked 54 = .ok (.iadd, 1) := by decide +kernel
theorem dX8_ranked_55 : decode cX8_ranked 55 = .ok (.istore 4, 2) := by decide +kernel
theorem dX8_ranked_57 : decode cX8_ranked 57 = .ok (.iinc 5 1, 3) := by decide +kernel
theorem dX8_ranked_60 : decode cX8_ranked 60 = .ok (.goto (-40), 3) := by decide +kernel
theorem dX8_ranked_63 : decode cX8_ranked 63 = .ok (.iload 4, 2) := by decide +kernel
theorem dX8_ranked_65 : decode cX8_ranked 65 = .ok (.iload_n 1, 1) := by decide +kernel
theorem dX8_ranked_66 : decode cX8_ranked 66 = .ok (.if_icmp .ne 7, 3) := by decide +kernel
theorem dX8_ranked_69 : decode cX8_ranked 69 = .ok (.iload_n 3, 1) := by decide +kernel
theorem dX8_ranked_70 : decode cX8_ranked 70 = .ok (.goto 4, 3) := by decide +kernel
theorem dX8_ranked_73 : decode cX8_ranked 73 = .ok (.iload_n 2, 1) := by decide +kernel
theorem dX8_ranked_74 : decode cX8_ranked 74 = .ok (.istore_n 2, 1) := by decide +kernel
theorem dX8_ranked_75 : decode cX8_ranked 75 = .ok (.iinc 3 1, 3) := by decide +kernel
theorem dX8_ranked_78 : decode cX8_ranked 78 = .ok (.goto (-74), 3) := by decide +kernel
theorem dX8_ranked_81 : decode cX8_ranked 81 = .ok (.aload_n 0, 1) := by decide +kernel
theorem dX8_ranked_82 : decode cX8_ranked 82 = .ok (.iload_n 2, 1) := by decide +kernel
theorem dX8_ranked_83 : decode cX8_ranked 83 = .ok (.iconst (-1), 1) := by decide +kernel
theorem dX8_ranked_84 : decode cX8_ranked 84 = .ok (.if_icmp .ne 7, 3) := by decide +kernel
theorem dX8_ranked_87 : decode cX8_ranked 87 = .ok (.iconst 1, 1) := by decide +kernel
theorem dX8_ranked_88 : decode cX8_ranked 88 = .ok (.goto 4, 3) := by decide +kernel
theorem dX8_ranked_91 : decode cX8_ranked 91 = .ok (.iconst 0, 1) := by decide +kernel
theorem dX8_ranked_92 : decode cX8_ranked 92 = .ok (.putfield 38, 3) := by decide +kernel
theorem dX8_ranked_95 : decode cX8_ranked 95 = .ok (.aload_n 0, 1) := by decide +kernel
theorem dX8_ranked_96 : decode cX8_ranked 96 = .ok (.getfield 38, 3) := by decide +kernel
theorem dX8_ranked_99 : decode cX8_ranked 99 = .ok (.ifCond .ne 7, 3) := by decide +kernel
theorem dX8_ranked_102 : decode cX8_ranked 102 = .ok (.iload_n 2, 1) := by decide +kernel
theorem dX8_ranked_103 : decode cX8_ranked 103 = .ok (.goto 4, 3) := by decide +kernel
theorem dX8_ranked_106 : decode cX8_ranked 106 = .ok (.iconst 0, 1) := by decide +kernel
theorem dX8_ranked_107 : decode cX8_ranked 107 = .ok (.ireturn, 1) := by decide +kernel
theorem dX8_carried_0 : decode cX8_carried 0 = .ok (.aload_n 0, 1) := by decide +kernel
theorem dX8_carried_1 : decode cX8_carried 1 = .ok (.iconst 0, 1) := by decide +kernel
theorem dX8_carried_2 : decode cX8_carried 2 = .ok (.putfield 38, 3) := by decide +kernel
theorem dX8_carried_5 : decode cX8_carried 5 = .ok (.iconst 0, 1) := by decide +kernel
theorem dX8_carried_6 : decode cX8_carried 6 = .ok (.istore_n 1, 1) := by decide +kernel
theorem dX8_carried_7 : decode cX8_carried 7 = .ok (.iconst 0, 1) := by decide +kernel
theorem dX8_carried_8 : decode cX8_carried 8 = .ok (.istore_n 2, 1) := by decide +kernel
theorem dX8_carried_9 : decode cX8_carried 9 = .ok (.iload_n 2, 1) := by decide +kernel
theorem dX8_carried_10 : decode cX8_carried 10 = .ok (.aload_n 0, 1) := by decide +kernel
theorem dX8_carried_11 : decode cX8_carried 11 = .ok (.getfield 9, 3) := by decide +kernel
theorem dX8_carried_14 : decode cX8_carried 14 = .ok (.iconst 2, 1) := by decide +kernel
theorem dX8_carried_15 : decode cX8_carried 15 = .ok (.iaload, 1) := by decide +kernel
theorem dX8_carried_16 : decode cX8_carried 16 = .ok (.if_icmp .ge 18, 3) := by decide +kernel
theorem dX8_carried_19 : decode cX8_carried 19 = .ok (.iload_n 1, 1) := by decide +kernel
theorem dX8_carried_20 : decode cX8_carried 20 = .ok (.aload_n 0, 1) := by decide +kernel
theorem dX8_carried_21 : decode cX8_carried 21 = .ok (.iload_n 2, 1) := by decide +kernel
theorem dX8_carried_22 : decode cX8_carried 22 = .ok (.iconst 3, 1) := by decide +kernel
theorem dX8_carried_23 : decode cX8_carried 23 = .ok (.invokevirtual 83, 3) := by decide +kernel
theorem dX8_carried_26 : decode cX8_carried 26 = .ok (.iadd, 1) := by decide +kernel
theorem dX8_carried_27 : decode cX8_carried 27 = .ok (.istore_n 1, 1) := by decide +kernel
theorem dX8_carried_28 : decode cX8_carried 28 = .ok (.iinc 2 1, 3) := by decide +kernel
theorem dX8_carried_31 : decode cX8_carried 31 = .ok (.goto (-22), 3) := by decide +kernel
theorem dX8_carried_34 : decode cX8_carried 34 = .ok (.iload_n 1, 1) := by decide +kernel
theorem dX8_carried_35 : decode cX8_carried 35 = .ok (.ireturn, 1) := by decide +kernel
theorem dX8_carriedAgain_0 : decode cX8_carriedAgain 0 = .ok (.aload_n 0, 1) := by decide +kernel
theorem dX8_carriedAgain_1 : decode cX8_carriedAgain 1 = .ok (.iconst 0, 1) := by decide +kernel
theorem dX8_carriedAgain_2 : decode cX8_carriedAgain 2 = .ok (.putfield 38, 3) := by decide +kernel
theorem dX8_carriedAgain_5 : decode cX8_carriedAgain 5 = .ok (.aload_n 0, 1) := by decide +kernel
theorem dX8_carriedAgain_6 : decode cX8_carriedAgain 6 = .ok (.getfield 9, 3) := by decide +kernel
theorem dX8_carriedAgain_9 : decode cX8_carriedAgain 9 = .ok (.bipush 7, 2) := by decide +kernel
theorem dX8_carriedAgain_11 : decode cX8_carriedAgain 11 = .ok (.iaload, 1) := by decide +kernel
theorem dX8_carriedAgain_12 : decode cX8_carriedAgain 12 = .ok (.aload_n 0, 1) := by decide +kernel
theorem dX8_carriedAgain_13 : decode cX8_carriedAgain 13 = .ok (.iconst 4, 1) := by decide +kernel
theorem dX8_carriedAgain_14 : decode cX8_carriedAgain 14 = .ok (.invokevirtual 159, 3) := by decide +kernel
theorem dX8_carriedAgain_17 : decode cX8_carriedAgain 17 = .ok (.iadd, 1) := by decide +kernel
theorem dX8_carriedAgain_18 : decode cX8_carriedAgain 18 = .ok (.iconst 3, 1) := by decide +kernel
theorem dX8_carriedAgain_19 : decode cX8_carriedAgain 19 = .ok (.idiv, 1) := by decide +kernel
theorem dX8_carriedAgain_20 : decode cX8_carriedAgain 20 = .ok (.ireturn, 1) := by decide +kernel
theorem dX8_put_0 : decode cX8_put 0 = .ok (.aload_n 0, 1) := by decide +kernel
theorem dX8_put_1 : decode cX8_put 1 = .ok (.getfield 29, 3) := by decide +kernel
theorem dX8_put_4 : decode cX8_put 4 = .ok (.iload_n 1, 1) := by decide +kernel
theorem dX8_put_5 : decode cX8_put 5 = .ok (.iload_n 2, 1) := by decide +kernel
theorem dX8_put_6 : decode cX8_put 6 = .ok (.iastore, 1) := by decide +kernel
theorem dX8_put_7 : decode cX8_put 7 = .ok (.iload_n 1, 1) := by decide +kernel
theorem dX8_put_8 : decode cX8_put 8 = .ok (.iconst 1, 1) := by decide +kernel
theorem dX8_put_9 : decode cX8_put 9 = .ok (.iadd, 1) := by decide +kernel
theorem dX8_put_10 : decode cX8_put 10 = .ok (.ireturn, 1) := by decide +kernel
theorem dX8_writesNumber_0 : decode cX8_writesNumber 0 = .ok (.iload_n 2, 1) := by decide +kernel
theorem dX8_writesNumber_1 : decode cX8_writesNumber 1 = .ok (.bipush 10, 2) := by decide +kernel
theorem dX8_writesNumber_3 : decode cX8_writesNumber 3 = .ok (.if_icmp .ge 7, 3) := by decide +kernel
theorem dX8_writesNumber_6 : decode cX8_writesNumber 6 = .ok (.iload_n 1, 1) := by decide +kernel
theorem dX8_writesNumber_7 : decode cX8_writesNumber 7 = .ok (.goto 15, 3) := by decide +kernel
theorem dX8_writesNumber_10 : decode cX8_writesNumber 10 = .ok (.aload_n 0, 1) := by decide +kernel
theorem dX8_writesNumber_11 : decode cX8_writesNumber 11 = .ok (.iload_n 1, 1) := by decide +kernel
theorem dX8_writesNumber_12 : decode cX8_writesNumber 12 = .ok (.bipush 48, 2) := by decide +kernel
theorem dX8_writesNumber_14 : decode cX8_writesNumber 14 = .ok (.iload_n 2, 1) := by decide +kernel
theorem dX8_writesNumber_15 : decode cX8_writesNumber 15 = .ok (.bipush 10, 2) := by decide +kernel
theorem dX8_writesNumber_17 : decode cX8_writesNumber 17 = .ok (.idiv, 1) := by decide +kernel
theorem dX8_writesNumber_18 : decode cX8_writesNumber 18 = .ok (.iadd, 1) := by decide +kernel
theorem dX8_writesNumber_19 : decode cX8_writesNumber 19 = .ok (.invokevirtual 172, 3) := by decide +kernel
theorem dX8_writesNumber_22 : decode cX8_writesNumber 22 = .ok (.istore_n 3, 1) := by decide +kernel
theorem dX8_writesNumber_23 : decode cX8_writesNumber 23 = .ok (.aload_n 0, 1) := by decide +kernel
theorem dX8_writesNumber_24 : decode cX8_writesNumber 24 = .ok (.iload_n 3, 1) := by decide +kernel
theorem dX8_writesNumber_25 : decode cX8_writesNumber 25 = .ok (.bipush 48, 2) := by decide +kernel
theorem dX8_writesNumber_27 : decode cX8_writesNumber 27 = .ok (.iload_n 2, 1) := by decide +kernel
theorem dX8_writesNumber_28 : decode cX8_writesNumber 28 = .ok (.bipush 10, 2) := by decide +kernel
theorem dX8_writesNumber_30 : decode cX8_writesNumber 30 = .ok (.irem, 1) := by decide +kernel
theorem dX8_writesNumber_31 : decode cX8_writesNumber 31 = .ok (.iadd, 1) := by decide +kernel
theorem dX8_writesNumber_32 : decode cX8_writesNumber 32 = .ok (.invokevirtual 172, 3) := by decide +kernel
theorem dX8_writesNumber_35 : decode cX8_writesNumber 35 = .ok (.ireturn, 1) := by decide +kernel
theorem dX8_line_0 : decode cX8_line 0 = .ok (.aload_n 0, 1) := by decide +kernel
theorem dX8_line_1 : decode cX8_line 1 = .ok (.aload_n 0, 1) := by decide +kernel
theorem dX8_line_2 : decode cX8_line 2 = .ok (.iload_n 1, 1) := by decide +kernel
theorem dX8_line_3 : decode cX8_line 3 = .ok (.invokevirtual 104, 3) := by decide +kernel
theorem dX8_line_6 : decode cX8_line 6 = .ok (.ifCond .eq 7, 3) := by decide +kernel
theorem dX8_line_9 : decode cX8_line 9 = .ok (.iconst 0, 1) := by decide +kernel
theorem dX8_line_10 : decode cX8_line 10 = .ok (.goto 4, 3) := by decide +kernel
theorem dX8_line_13 : decode cX8_line 13 = .ok (.iconst 1, 1) := by decide +kernel
theorem dX8_line_14 : decode cX8_line 14 = .ok (.putfield 38, 3) := by decide +kernel
theorem dX8_line_17 : decode cX8_line 17 = .ok (.aload_n 0, 1) := by decide +kernel
theorem dX8_line_18 : decode cX8_line 18 = .ok (.getfield 38, 3) := by decide +kernel
theorem dX8_line_21 : decode cX8_line 21 = .ok (.ifCond .eq 5, 3) := by decide +kernel
theorem dX8_line_24 : decode cX8_line 24 = .ok (.iconst 0, 1) := by decide +kernel
theorem dX8_line_25 : decode cX8_line 25 = .ok (.ireturn, 1) := by decide +kernel
theorem dX8_line_26 : decode cX8_line 26 = .ok (.aload_n 0, 1) := by decide +kernel
theorem dX8_line_27 : decode cX8_line 27 = .ok (.aload_n 0, 1) := by decide +kernel
theorem dX8_line_28 : decode cX8_line 28 = .ok (.iconst 0, 1) := by decide +kernel
theorem dX8_line_29 : decode cX8_line 29 = .ok (.iload_n 1, 1) := by decide +kernel
theorem dX8_line_30 : decode cX8_line 30 = .ok (.invokevirtual 175, 3) := by decide +kernel
theorem dX8_line_33 : decode cX8_line 33 = .ok (.bipush 58, 2) := by decide +kernel
theorem dX8_line_35 : decode cX8_line 35 = .ok (.invokevirtual 172, 3) := by decide +kernel
theorem dX8_line_38 : decode cX8_line 38 = .ok (.istore_n 2, 1) := by decide +kernel
theorem dX8_line_39 : decode cX8_line 39 = .ok (.aload_n 0, 1) := by decide +kernel
theorem dX8_line_40 : decode cX8_line 40 = .ok (.aload_n 0, 1) := by decide +kernel
theorem dX8_line_41 : decode cX8_line 41 = .ok (.iload_n 2, 1) := by decide +kernel
theorem dX8_line_42 : decode cX8_line 42 = .ok (.aload_n 0, 1) := by decide +kernel
theorem dX8_line_43 : decode cX8_line 43 = .ok (.iload_n 1, 1) := by decide +kernel
theorem dX8_line_44 : decode cX8_line 44 = .ok (.iconst 3, 1) := by decide +kernel
theorem dX8_line_45 : decode cX8_line 45 = .ok (.invokevirtual 74, 3) := by decide +kernel
theorem dX8_line_48 : decode cX8_line 48 = .ok (.invokevirtual 175, 3) := by decide +kernel
theorem dX8_line_51 : decode cX8_line 51 = .ok (.bipush 47, 2) := by decide +kernel
theorem dX8_line_53 : decode cX8_line 53 = .ok (.invokevirtual 172, 3) := by decide +kernel
theorem dX8_line_56 : decode cX8_line 56 = .ok (.istore_n 2, 1) := by decide +kernel
theorem dX8_line_57 : decode cX8_line 57 = .ok (.aload_n 0, 1) := by decide +kernel
theorem dX8_line_58 : decode cX8_line 58 = .ok (.iload_n 2, 1) := by decide +kernel
theorem dX8_line_59 : decode cX8_line 59 = .ok (.aload_n 0, 1) := by decide +kernel
theorem dX8_line_60 : decode cX8_line 60 = .ok (.iload_n 1, 1) := by decide +kernel
theorem dX8_line_61 : decode cX8_line 61 = .ok (.iconst 4, 1) := by decide +kernel
theorem dX8_line_62 : decode cX8_line 62 = .ok (.invokevirtual 74, 3) := by decide +kernel
theorem dX8_line_65 : decode cX8_line 65 = .ok (.invokevirtual 175, 3) := by decide +kernel
theorem dX8_line_68 : decode cX8_line 68 = .ok (.istore_n 2, 1) := by decide +kernel
theorem dX8_line_69 : decode cX8_line 69 = .ok (.iconst 0, 1) := by decide +kernel
theorem dX8_line_70 : decode cX8_line 70 = .ok (.istore_n 3, 1) := by decide +kernel
theorem dX8_line_71 : decode cX8_line 71 = .ok (.iload_n 3, 1) := by decide +kernel
theorem dX8_line_72 : decode cX8_line 72 = .ok (.aload_n 0, 1) := by decide +kernel
theorem dX8_line_73 : decode cX8_line 73 = .ok (.iload_n 1, 1) := by decide +kernel
theorem dX8_line_74 : decode cX8_line 74 = .ok (.iconst 5, 1) := by decide +kernel
theorem dX8_line_75 : decode cX8_line 75 = .ok (.invokevirtual 74, 3) := by decide +kernel
theorem dX8_line_78 : decode cX8_line 78 = .ok (.iconst 2, 1) := by decide +kernel
theorem dX8_line_79 : decode cX8_line 79 = .ok (.iadd, 1) := by decide +kernel
theorem dX8_line_80 : decode cX8_line 80 = .ok (.iconst 3, 1) := by decide +kernel
theorem dX8_line_81 : decode cX8_line 81 = .ok (.idiv, 1) := by decide +kernel
theorem dX8_line_82 : decode cX8_line 82 = .ok (.if_icmp .ge 17, 3) := by decide +kernel
theorem dX8_line_85 : decode cX8_line 85 = .ok (.aload_n 0, 1) := by decide +kernel
theorem dX8_line_86 : decode cX8_line 86 = .ok (.iload_n 2, 1) := by decide +kernel
theorem dX8_line_87 : decode cX8_line 87 = .ok (.bipush 35, 2) := by decide +kernel
theorem dX8_line_89 : decode cX8_line 89 = .ok (.invokevirtual 172, 3) := by decide +kernel
theorem dX8_line_92 : decode cX8_line 92 = .ok (.istore_n 2, 1) := by decide +kernel
theorem dX8_line_93 : decode cX8_line 93 = .ok (.iinc 3 1, 3) := by decide +kernel
theorem dX8_line_96 : decode cX8_line 96 = .ok (.goto (-25), 3) := by decide +kernel
theorem dX8_line_99 : decode cX8_line 99 = .ok (.aload_n 0, 1) := by decide +kernel
theorem dX8_line_100 : decode cX8_line 100 = .ok (.iload_n 1, 1) := by decide +kernel
theorem dX8_line_101 : decode cX8_line 101 = .ok (.iconst 1, 1) := by decide +kernel
theorem dX8_line_102 : decode cX8_line 102 = .ok (.invokevirtual 74, 3) := by decide +kernel
theorem dX8_line_105 : decode cX8_line 105 = .ok (.istore_n 3, 1) := by decide +kernel
theorem dX8_line_106 : decode cX8_line 106 = .ok (.aload_n 0, 1) := by decide +kernel
theorem dX8_line_107 : decode cX8_line 107 = .ok (.iload_n 3, 1) := by decide +kernel
theorem dX8_line_108 : decode cX8_line 108 = .ok (.ifCond .ne 7, 3) := by decide +kernel
theorem dX8_line_111 : decode cX8_line 111 = .ok (.iload_n 2, 1) := by decide +kernel
theorem dX8_line_112 : decode cX8_line 112 = .ok (.goto 36, 3) := by decide +kernel
theorem dX8_line_115 : decode cX8_line 115 = .ok (.aload_n 0, 1) := by decide +kernel
theorem dX8_line_116 : decode cX8_line 116 = .ok (.iload_n 2, 1) := by decide +kernel
theorem dX8_line_117 : decode cX8_line 117 = .ok (.aload_n 0, 1) := by decide +kernel
theorem dX8_line_118 : decode cX8_line 118 = .ok (.iload_n 1, 1) := by decide +kernel
theorem dX8_line_119 : decode cX8_line 119 = .ok (.bipush 7, 2) := by decide +kernel
theorem dX8_line_121 : decode cX8_line 121 = .ok (.invokevirtual 74, 3) := by decide +kernel
theorem dX8_line_124 : decode cX8_line 124 = .ok (.iconst 1, 1) := by decide +kernel
theorem dX8_line_125 : decode cX8_line 125 = .ok (.if_icmp .ne 8, 3) := by decide +kernel
theorem dX8_line_128 : decode cX8_line 128 = .ok (.bipush 98, 2) := by decide +kernel
theorem dX8_line_130 : decode cX8_line 130 = .ok (.goto 15, 3) := by decide +kernel
theorem dX8_line_133 : decode cX8_line 133 = .ok (.iload_n 3, 1) := by decide +kernel
theorem dX8_line_134 : decode cX8_line 134 = .ok (.iconst 1, 1) := by decide +kernel
theorem dX8_line_135 : decode cX8_line 135 = .ok (.if_icmp .ne 8, 3) := by decide +kernel
theorem dX8_line_138 : decode cX8_line 138 = .ok (.bipush 122, 2) := by decide +kernel
theorem dX8_line_140 : decode cX8_line 140 = .ok (.goto 5, 3) := by decide +kernel
theorem dX8_line_143 : decode cX8_line 143 = .ok (.bipush 33, 2) := by decide +kernel
theorem dX8_line_145 : decode cX8_line 145 = .ok (.invokevirtual 172, 3) := by decide +kernel
theorem dX8_line_148 : decode cX8_line 148 = .ok (.putfield 178, 3) := by decide +kernel
theorem dX8_line_151 : decode cX8_line 151 = .ok (.aload_n 0, 1) := by decide +kernel
theorem dX8_line_152 : decode cX8_line 152 = .ok (.getfield 178, 3) := by decide +kernel
theorem dX8_line_155 : decode cX8_line 155 = .ok (.ireturn, 1) := by decide +kernel
theorem dX8_character_0 : decode cX8_character 0 = .ok (.aload_n 0, 1) := by decide +kernel
theorem dX8_character_1 : decode cX8_character 1 = .ok (.iload_n 1, 1) := by decide +kernel
theorem dX8_character_2 : decode cX8_character 2 = .ok (.iconst 0, 1) := by decide +kernel
theorem dX8_character_3 : decode cX8_character 3 = .ok (.aload_n 0, 1) := by decide +kernel
theorem dX8_character_4 : decode cX8_character 4 = .ok (.getfield 178, 3) := by decide +kernel
theorem dX8_character_7 : decode cX8_character 7 = .ok (.iconst 1, 1) := by decide +kernel
theorem dX8_character_8 : decode cX8_character 8 = .ok (.isub, 1) := by decide +kernel
theorem dX8_character_9 : decode cX8_character 9 = .ok (.invokestatic 66, 3) := by decide +kernel
theorem dX8_character_12 : decode cX8_character 12 = .ok (.ifCond .eq 7, 3) := by decide +kernel
theorem dX8_character_15 : decode cX8_character 15 = .ok (.iconst 0, 1) := by decide +kernel
theorem dX8_character_16 : decode cX8_character 16 = .ok (.goto 4, 3) := by decide +kernel
theorem dX8_character_19 : decode cX8_character 19 = .ok (.iconst 1, 1) := by decide +kernel
theorem dX8_character_20 : decode cX8_character 20 = .ok (.putfield 38, 3) := by decide +kernel
theorem dX8_character_23 : decode cX8_character 23 = .ok (.aload_n 0, 1) := by decide +kernel
theorem dX8_character_24 : decode cX8_character 24 = .ok (.getfield 38, 3) := by decide +kernel
theorem dX8_character_27 : decode cX8_character 27 = .ok (.ifCond .ne 13, 3) := by decide +kernel
theorem dX8_character_30 : decode cX8_character 30 = .ok (.aload_n 0, 1) := by decide +kernel
theorem dX8_character_31 : decode cX8_character 31 = .ok (.getfield 29, 3) := by decide +kernel
theorem dX8_character_34 : decode cX8_character 34 = .ok (.iload_n 1, 1) := by decide +kernel
theorem dX8_character_35 : decode cX8_character 35 = .ok (.iaload, 1) := by decide +kernel
theorem dX8_character_36 : decode cX8_character 36 = .ok (.i2c, 1) := by decide +kernel
theorem dX8_character_37 : decode cX8_character 37 = .ok (.goto 4, 3) := by decide +kernel
theorem dX8_character_40 : decode cX8_character 40 = .ok (.iconst 0, 1) := by decide +kernel
theorem dX8_character_41 : decode cX8_character 41 = .ok (.ireturn, 1) := by decide +kernel
theorem dX8_meanArrears_0 : decode cX8_meanArrears 0 = .ok (.aload_n 0, 1) := by decide +kernel
theorem dX8_meanArrears_1 : decode cX8_meanArrears 1 = .ok (.aload_n 0, 1) := by decide +kernel
theorem dX8_meanArrears_2 : decode cX8_meanArrears 2 = .ok (.getfield 9, 3) := by decide +kernel
theorem dX8_meanArrears_5 : decode cX8_meanArrears 5 = .ok (.iconst 1, 1) := by decide +kernel
theorem dX8_meanArrears_6 : decode cX8_meanArrears 6 = .ok (.iaload, 1) := by decide +kernel
theorem dX8_meanArrears_7 : decode cX8_meanArrears 7 = .ok (.ifCond .ne 7, 3) := by decide +kernel
theorem dX8_meanArrears_10 : decode cX8_meanArrears 10 = .ok (.iconst 1, 1) := by decide +kernel
theorem dX8_meanArrears_11 : decode cX8_meanArrears 11 = .ok (.goto 4, 3) := by decide +kernel
theorem dX8_meanArrears_14 : decode cX8_meanArrears 14 = .ok (.iconst 0, 1) := by decide +kernel
theorem dX8_meanArrears_15 : decode cX8_meanArrears 15 = .ok (.putfield 38, 3) := by decide +kernel
theorem dX8_meanArrears_18 : decode cX8_meanArrears 18 = .ok (.aload_n 0, 1) := by decide +kernel
theorem dX8_meanArrears_19 : decode cX8_meanArrears 19 = .ok (.getfield 38, 3) := by decide +kernel
theorem dX8_meanArrears_22 : decode cX8_meanArrears 22 = .ok (.ifCond .ne 20, 3) := by decide +kernel
theorem dX8_meanArrears_25 : decode cX8_meanArrears 25 = .ok (.aload_n 0, 1) := by decide +kernel
theorem dX8_meanArrears_26 : decode cX8_meanArrears 26 = .ok (.iconst 4, 1) := by decide +kernel
theorem dX8_meanArrears_27 : decode cX8_meanArrears 27 = .ok (.invokevirtual 159, 3) := by decide +kernel
theorem dX8_meanArrears_30 : decode cX8_meanArrears 30 = .ok (.i2f, 1) := by decide +kernel
theorem dX8_meanArrears_31 : decode cX8_meanArrears 31 = .ok (.aload_n 0, 1) := by decide +kernel
theorem dX8_meanArrears_32 : decode cX8_meanArrears 32 = .ok (.getfield 9, 3) := by decide +kernel
theorem dX8_meanArrears_35 : decode cX8_meanArrears 35 = .ok (.iconst 1, 1) := by decide +kernel
theorem dX8_meanArrears_36 : decode cX8_meanArrears 36 = .ok (.iaload, 1) := by decide +kernel
theorem dX8_meanArrears_37 : decode cX8_meanArrears 37 = .ok (.i2f, 1) := by decide +kernel
theorem dX8_meanArrears_38 : decode cX8_meanArrears 38 = .ok (.fdiv, 1) := by decide +kernel
theorem dX8_meanArrears_39 : decode cX8_meanArrears 39 = .ok (.goto 4, 3) := by decide +kernel
theorem dX8_meanArrears_42 : decode cX8_meanArrears 42 = .ok (.fconst 0, 1) := by decide +kernel
theorem dX8_meanArrears_43 : decode cX8_meanArrears 43 = .ok (.freturn, 1) := by decide +kernel
theorem dX8_paidShare_0 : decode cX8_paidShare 0 = .ok (.aload_n 0, 1) := by decide +kernel
theorem dX8_paidShare_1 : decode cX8_paidShare 1 = .ok (.getfield 9, 3) := by decide +kernel
theorem dX8_paidShare_4 : decode cX8_paidShare 4 = .ok (.bipush 7, 2) := by decide +kernel
theorem dX8_paidShare_6 : decode cX8_paidShare 6 = .ok (.iaload, 1) := by decide +kernel
theorem dX8_paidShare_7 : decode cX8_paidShare 7 = .ok (.aload_n 0, 1) := by decide +kernel
theorem dX8_paidShare_8 : decode cX8_paidShare 8 = .ok (.iconst 4, 1) := by decide +kernel
theorem dX8_paidShare_9 : decode cX8_paidShare 9 = .ok (.invokevirtual 159, 3) := by decide +kernel
theorem dX8_paidShare_12 : decode cX8_paidShare 12 = .ok (.iadd, 1) := by decide +kernel
theorem dX8_paidShare_13 : decode cX8_paidShare 13 = .ok (.istore_n 1, 1) := by decide +kernel
theorem dX8_paidShare_14 : decode cX8_paidShare 14 = .ok (.aload_n 0, 1) := by decide +kernel
theorem dX8_paidShare_15 : decode cX8_paidShare 15 = .ok (.iload_n 1, 1) := by decide +kernel
theorem dX8_paidShare_16 : decode cX8_paidShare 16 = .ok (.ifCond .ne 7, 3) := by decide +kernel
theorem dX8_paidShare_19 : decode cX8_paidShare 19 = .ok (.iconst 1, 1) := by decide +kernel
theorem dX8_paidShare_20 : decode cX8_paidShare 20 = .ok (.goto 4, 3) := by decide +kernel
theorem dX8_paidShare_23 : decode cX8_paidShare 23 = .ok (.iconst 0, 1) := by decide +kernel
theorem dX8_paidShare_24 : decode cX8_paidShare 24 = .ok (.putfield 38, 3) := by decide +kernel
theorem dX8_paidShare_27 : decode cX8_paidShare 27 = .ok (.aload_n 0, 1) := by decide +kernel
theorem dX8_paidShare_28 : decode cX8_paidShare 28 = .ok (.getfield 38, 3) := by decide +kernel
theorem dX8_paidShare_31 : decode cX8_paidShare 31 = .ok (.ifCond .ne 17, 3) := by decide +kernel
theorem dX8_paidShare_34 : decode cX8_paidShare 34 = .ok (.aload_n 0, 1) := by decide +kernel
theorem dX8_paidShare_35 : decode cX8_paidShare 35 = .ok (.getfield 9, 3) := by decide +kernel
theorem dX8_paidShare_38 : decode cX8_paidShare 38 = .ok (.bipush 7, 2) := by decide +kernel
theorem dX8_paidShare_40 : decode cX8_paidShare 40 = .ok (.iaload, 1) := by decide +kernel
theorem dX8_paidShare_41 : decode cX8_paidShare 41 = .ok (.i2d, 1) := by decide +kernel
theorem dX8_paidShare_42 : decode cX8_paidShare 42 = .ok (.iload_n 1, 1) := by decide +kernel
theorem dX8_paidShare_43 : decode cX8_paidShare 43 = .ok (.i2d, 1) := by decide +kernel
theorem dX8_paidShare_44 : decode cX8_paidShare 44 = .ok (.ddiv, 1) := by decide +kernel
theorem dX8_paidShare_45 : decode cX8_paidShare 45 = .ok (.goto 4, 3) := by decide +kernel
theorem dX8_paidShare_48 : decode cX8_paidShare 48 = .ok (.dconst 0, 1) := by decide +kernel
theorem dX8_paidShare_49 : decode cX8_paidShare 49 = .ok (.dreturn, 1) := by decide +kernel
theorem dX8_account_0 : decode cX8_account 0 = .ok (.aload_n 0, 1) := by decide +kernel
theorem dX8_account_1 : decode cX8_account 1 = .ok (.iload_n 1, 1) := by decide +kernel
theorem dX8_account_2 : decode cX8_account 2 = .ok (.iconst 0, 1) := by decide +kernel
theorem dX8_account_3 : decode cX8_account 3 = .ok (.bipush 15, 2) := by decide +kernel
theorem dX8_account_5 : decode cX8_account 5 = .ok (.invokestatic 66, 3) := by decide +kernel
theorem dX8_account_8 : decode cX8_account 8 = .ok (.ifCond .eq 7, 3) := by decide +kernel
theorem dX8_account_11 : decode cX8_account 11 = .ok (.iconst 0, 1) := by decide +kernel
theorem dX8_account_12 : decode cX8_account 12 = .ok (.goto 4, 3) := by decide +kernel
theorem dX8_account_15 : decode cX8_account 15 = .ok (.iconst 1, 1) := by decide +kernel
theorem dX8_account_16 : decode cX8_account 16 = .ok (.putfield 38, 3) := by decide +kernel
theorem dX8_account_19 : decode cX8_account 19 = .ok (.iload_n 1, 1) := by decide +kernel
theorem dX8_account_20 : decode cX8_account 20 = .ok (.tableswitch 152 0 15 #[80, 80, 80, 80, 80, 80, 87, 93, 99, 105, 113, 121, 129, 134, 142, 147], 80) := by decide +kernel
theorem dX8_account_100 : decode cX8_account 100 = .ok (.aload_n 0, 1) := by decide +kernel
theorem dX8_account_101 : decode cX8_account 101 = .ok (.getfield 9, 3) := by decide +kernel
theorem dX8_account_104 : decode cX8_account 104 = .ok (.iload_n 1, 1) := by decide +kernel
theorem dX8_account_105 : decode cX8_account 105 = .ok (.iaload, 1) := by decide +kernel
theorem dX8_account_106 : decode cX8_account 106 = .ok (.ireturn, 1) := by decide +kernel
theorem dX8_account_107 : decode cX8_account 107 = .ok (.aload_n 0, 1) := by decide +kernel
theorem dX8_account_108 : decode cX8_account 108 = .ok (.iconst 3, 1) := by decide +kernel
theorem dX8_account_109 : decode cX8_account 109 = .ok (.invokevirtual 159, 3) := by decide +kernel
theorem dX8_account_112 : decode cX8_account 112 = .ok (.ireturn, 1) := by decide +kernel
theorem dX8_account_113 : decode cX8_account 113 = .ok (.aload_n 0, 1) := by decide +kernel
theorem dX8_account_114 : decode cX8_account 114 = .ok (.iconst 4, 1) := by decide +kernel
theorem dX8_account_115 : decode cX8_account 115 = .ok (.invokevirtual 159, 3) := by decide +kernel
theorem dX8_account_118 : decode cX8_account 118 = .ok (.ireturn, 1) := by decide +kernel
theorem dX8_account_119 : decode cX8_account 119 = .ok (.aload_n 0, 1) := by decide +kernel
theorem dX8_account_120 : decode cX8_account 120 = .ok (.iconst 5, 1) := by decide +kernel
theorem dX8_account_121 : decode cX8_account 121 = .ok (.invokevirtual 159, 3) := by decide +kernel
theorem dX8_account_124 : decode cX8_account 124 = .ok (.ireturn, 1) := by decide +kernel
theorem dX8_account_125 : decode cX8_account 125 = .ok (.aload_n 0, 1) := by decide +kernel
theorem dX8_account_126 : decode cX8_account 126 = .ok (.getfield 9, 3) := by decide +kernel
theorem dX8_account_129 : decode cX8_account 129 = .ok (.bipush 6, 2) := by decide +kernel
theorem dX8_account_131 : decode cX8_account 131 = .ok (.iaload, 1) := by decide +kernel
theorem dX8_account_132 : decode cX8_account 132 = .ok (.ireturn, 1) := by decide +kernel
theorem dX8_account_133 : decode cX8_account 133 = .ok (.aload_n 0, 1) := by decide +kernel
theorem dX8_account_134 : decode cX8_account 134 = .ok (.getfield 9, 3) := by decide +kernel
theorem dX8_account_137 : decode cX8_account 137 = .ok (.bipush 7, 2) := by decide +kernel
theorem dX8_account_139 : decode cX8_account 139 = .ok (.iaload, 1) := by decide +kernel
theorem dX8_account_140 : decode cX8_account 140 = .ok (.ireturn, 1) := by decide +kernel
theorem dX8_account_141 : decode cX8_account 141 = .ok (.aload_n 0, 1) := by decide +kernel
theorem dX8_account_142 : decode cX8_account 142 = .ok (.getfield 9, 3) := by decide +kernel
theorem dX8_account_145 : decode cX8_account 145 = .ok (.bipush 8, 2) := by decide +kernel
theorem dX8_account_147 : decode cX8_account 147 = .ok (.iaload, 1) := by decide +kernel
theorem dX8_account_148 : decode cX8_account 148 = .ok (.ireturn, 1) := by decide +kernel
theorem dX8_account_149 : decode cX8_account 149 = .ok (.aload_n 0, 1) := by decide +kernel
theorem dX8_account_150 : decode cX8_account 150 = .ok (.invokevirtual 121, 3) := by decide +kernel
theorem dX8_account_153 : decode cX8_account 153 = .ok (.ireturn, 1) := by decide +kernel
theorem dX8_account_154 : decode cX8_account 154 = .ok (.aload_n 0, 1) := by decide +kernel
theorem dX8_account_155 : decode cX8_account 155 = .ok (.getfield 9, 3) := by decide +kernel
theorem dX8_account_158 : decode cX8_account 158 = .ok (.bipush 9, 2) := by decide +kernel
theorem dX8_account_160 : decode cX8_account 160 = .ok (.iaload, 1) := by decide +kernel
theorem dX8_account_161 : decode cX8_account 161 = .ok (.ireturn, 1) := by decide +kernel
theorem dX8_account_162 : decode cX8_account 162 = .ok (.aload_n 0, 1) := by decide +kernel
theorem dX8_account_163 : decode cX8_account 163 = .ok (.getfield 51, 3) := by decide +kernel
theorem dX8_account_166 : decode cX8_account 166 = .ok (.ireturn, 1) := by decide +kernel
theorem dX8_account_167 : decode cX8_account 167 = .ok (.aload_n 0, 1) := by decide +kernel
theorem dX8_account_168 : decode cX8_account 168 = .ok (.getfield 181, 3) := by decide +kernel
theorem dX8_account_171 : decode cX8_account 171 = .ok (.ireturn, 1) := by decide +kernel
theorem dX8_account_172 : decode cX8_account 172 = .ok (.iconst 0, 1) := by decide +kernel
theorem dX8_account_173 : decode cX8_account 173 = .ok (.ireturn, 1) := by decide +kernel
theorem dX8_append_0 : decode cX8_append 0 = .ok (.aload_n 0, 1) := by decide +kernel
theorem dX8_append_1 : decode cX8_append 1 = .ok (.aload_n 0, 1) := by decide +kernel
theorem dX8_append_2 : decode cX8_append 2 = .ok (.getfield 181, 3) := by decide +kernel
theorem dX8_append_5 : decode cX8_append 5 = .ok (.bipush 60, 2) := by decide +kernel
theorem dX8_append_7 : decode cX8_append 7 = .ok (.if_icmp .ne 7, 3) := by decide +kernel
theorem dX8_append_10 : decode cX8_append 10 = .ok (.iconst 1, 1) := by decide +kernel
theorem dX8_append_11 : decode cX8_append 11 = .ok (.goto 4, 3) := by decide +kernel
theorem dX8_append_14 : decode cX8_append 14 = .ok (.iconst 0, 1) := by decide +kernel
theorem dX8_append_15 : decode cX8_append 15 = .ok (.putfield 38, 3) := by decide +kernel
theorem dX8_append_18 : decode cX8_append 18 = .ok (.aload_n 0, 1) := by decide +kernel
theorem dX8_append_19 : decode cX8_append 19 = .ok (.getfield 38, 3) := by decide +kernel
theorem dX8_append_22 : decode cX8_append 22 = .ok (.ifCond .eq 5, 3) := by decide +kernel
theorem dX8_append_25 : decode cX8_append 25 = .ok (.iconst 0, 1) := by decide +kernel
theorem dX8_append_26 : decode cX8_append 26 = .ok (.ireturn, 1) := by decide +kernel
theorem dX8_append_27 : decode cX8_append 27 = .ok (.aload_n 0, 1) := by decide +kernel
theorem dX8_append_28 : decode cX8_append 28 = .ok (.getfield 22, 3) := by decide +kernel
theorem dX8_append_31 : decode cX8_append 31 = .ok (.aload_n 0, 1) := by decide +kernel
theorem dX8_append_32 : decode cX8_append 32 = .ok (.getfield 181, 3) := by decide +kernel
theorem dX8_append_35 : decode cX8_append 35 = .ok (.iload_n 1, 1) := by decide +kernel
theorem dX8_append_36 : decode cX8_append 36 = .ok (.iastore, 1) := by decide +kernel
theorem dX8_append_37 : decode cX8_append 37 = .ok (.aload_n 0, 1) := by decide +kernel
theorem dX8_append_38 : decode cX8_append 38 = .ok (.dup, 1) := by decide +kernel
theorem dX8_append_39 : decode cX8_append 39 = .ok (.getfield 181, 3) := by decide +kernel
theorem dX8_append_42 : decode cX8_append 42 = .ok (.iconst 1, 1) := by decide +kernel
theorem dX8_append_43 : decode cX8_append 43 = .ok (.iadd, 1) := by decide +kernel
theorem dX8_append_44 : decode cX8_append 44 = .ok (.putfield 181, 3) := by decide +kernel
theorem dX8_append_47 : decode cX8_append 47 = .ok (.aload_n 0, 1) := by decide +kernel
theorem dX8_append_48 : decode cX8_append 48 = .ok (.getfield 181, 3) := by decide +kernel
theorem dX8_append_51 : decode cX8_append 51 = .ok (.ireturn, 1) := by decide +kernel
theorem dX8_sign_0 : decode cX8_sign 0 = .ok (.aload_n 0, 1) := by decide +kernel
theorem dX8_sign_1 : decode cX8_sign 1 = .ok (.getfield 184, 3) := by decide +kernel
theorem dX8_sign_4 : decode cX8_sign 4 = .ok (.aload_n 0, 1) := by decide +kernel
theorem dX8_sign_5 : decode cX8_sign 5 = .ok (.getfield 187, 3) := by decide +kernel
theorem dX8_sign_8 : decode cX8_sign 8 = .ok (.if_icmp .ge 15, 3) := by decide +kernel
theorem dX8_sign_11 : decode cX8_sign 11 = .ok (.aload_n 0, 1) := by decide +kernel
theorem dX8_sign_12 : decode cX8_sign 12 = .ok (.getfield 22, 3) := by decide +kernel
theorem dX8_sign_15 : decode cX8_sign 15 = .ok (.aload_n 0, 1) := by decide +kernel
theorem dX8_sign_16 : decode cX8_sign 16 = .ok (.getfield 184, 3) := by decide +kernel
theorem dX8_sign_19 : decode cX8_sign 19 = .ok (.iaload, 1) := by decide +kernel
theorem dX8_sign_20 : decode cX8_sign 20 = .ok (.goto 4, 3) := by decide +kernel
theorem dX8_sign_23 : decode cX8_sign 23 = .ok (.iconst (-1), 1) := by decide +kernel
theorem dX8_sign_24 : decode cX8_sign 24 = .ok (.ireturn, 1) := by decide +kernel
theorem dX8_reads_0 : decode cX8_reads 0 = .ok (.aload_n 0, 1) := by decide +kernel
theorem dX8_reads_1 : decode cX8_reads 1 = .ok (.getfield 190, 3) := by decide +kernel
theorem dX8_reads_4 : decode cX8_reads 4 = .ok (.iconst (-1), 1) := by decide +kernel
theorem dX8_reads_5 : decode cX8_reads 5 = .ok (.if_icmp .ne 40, 3) := by decide +kernel
theorem dX8_reads_8 : decode cX8_reads 8 = .ok (.aload_n 0, 1) := by decide +kernel
theorem dX8_reads_9 : decode cX8_reads 9 = .ok (.invokevirtual 193, 3) := by decide +kernel
theorem dX8_reads_12 : decode cX8_reads 12 = .ok (.iload_n 1, 1) := by decide +kernel
theorem dX8_reads_13 : decode cX8_reads 13 = .ok (.iload_n 2, 1) := by decide +kernel
theorem dX8_reads_14 : decode cX8_reads 14 = .ok (.invokestatic 66, 3) := by decide +kernel
theorem dX8_reads_17 : decode cX8_reads 17 = .ok (.ifCond .eq 28, 3) := by decide +kernel
theorem dX8_reads_20 : decode cX8_reads 20 = .ok (.aload_n 0, 1) := by decide +kernel
theorem dX8_reads_21 : decode cX8_reads 21 = .ok (.dup, 1) := by decide +kernel
theorem dX8_reads_22 : decode cX8_reads 22 = .ok (.getfield 184, 3) := by decide +kernel
theorem dX8_reads_25 : decode cX8_reads 25 = .ok (.iconst 1, 1) := by decide +kernel
theorem dX8_reads_26 : decode cX8_reads 26 = .ok (.iadd, 1) := by decide +kernel
theorem dX8_reads_27 : decode cX8_reads 27 = .ok (.putfield 184, 3) := by decide +kernel
theorem dX8_reads_30 : decode cX8_reads 30 = .ok (.aload_n 0, 1) := by decide +kernel
theorem dX8_reads_31 : decode cX8_reads 31 = .ok (.getfield 22, 3) := by decide +kernel
theorem dX8_reads_34 : decode cX8_reads 34 = .ok (.aload_n 0, 1) := by decide +kernel
theorem dX8_reads_35 : decode cX8_reads 35 = .ok (.getfield 184, 3) := by decide +kernel
theorem dX8_reads_38 : decode cX8_reads 38 = .ok (.iconst 1, 1) := by decide +kernel
theorem dX8_reads_39 : decode cX8_reads 39 = .ok (.isub, 1) := by decide +kernel
theorem dX8_reads_40 : decode cX8_reads 40 = .ok (.iaload, 1) := by decide +kernel
theorem dX8_reads_41 : decode cX8_reads 41 = .ok (.bipush 48, 2) := by decide +kernel
theorem dX8_reads_43 : decode cX8_reads 43 = .ok (.isub, 1) := by decide +kernel
theorem dX8_reads_44 : decode cX8_reads 44 = .ok (.ireturn, 1) := by decide +kernel
theorem dX8_reads_45 : decode cX8_reads 45 = .ok (.aload_n 0, 1) := by decide +kernel
theorem dX8_reads_46 : decode cX8_reads 46 = .ok (.aload_n 0, 1) := by decide +kernel
theorem dX8_reads_47 : decode cX8_reads 47 = .ok (.getfield 190, 3) := by decide +kernel
theorem dX8_reads_50 : decode cX8_reads 50 = .ok (.iconst (-1), 1) := by decide +kernel
theorem dX8_reads_51 : decode cX8_reads 51 = .ok (.if_icmp .ne 10, 3) := by decide +kernel
theorem dX8_reads_54 : decode cX8_reads 54 = .ok (.aload_n 0, 1) := by decide +kernel
theorem dX8_reads_55 : decode cX8_reads 55 = .ok (.getfield 184, 3) := by decide +kernel
theorem dX8_reads_58 : decode cX8_reads 58 = .ok (.goto 7, 3) := by decide +kernel
theorem dX8_reads_61 : decode cX8_reads 61 = .ok (.aload_n 0, 1) := by decide +kernel
theorem dX8_reads_62 : decode cX8_reads 62 = .ok (.getfield 190, 3) := by decide +kernel
theorem dX8_reads_65 : decode cX8_reads 65 = .ok (.putfield 190, 3) := by decide +kernel
theorem dX8_reads_68 : decode cX8_reads 68 = .ok (.iconst 0, 1) := by decide +kernel
theorem dX8_reads_69 : decode cX8_reads 69 = .ok (.ireturn, 1) := by decide +kernel
theorem dX8_digits_0 : decode cX8_digits 0 = .ok (.aload_n 0, 1) := by decide +kernel
theorem dX8_digits_1 : decode cX8_digits 1 = .ok (.bipush 48, 2) := by decide +kernel
theorem dX8_digits_3 : decode cX8_digits 3 = .ok (.bipush 57, 2) := by decide +kernel
theorem dX8_digits_5 : decode cX8_digits 5 = .ok (.invokevirtual 196, 3) := by decide +kernel
theorem dX8_digits_8 : decode cX8_digits 8 = .ok (.istore_n 2, 1) := by decide +kernel
theorem dX8_digits_9 : decode cX8_digits 9 = .ok (.iload_n 1, 1) := by decide +kernel
theorem dX8_digits_10 : decode cX8_digits 10 = .ok (.ifCond .eq 41, 3) := by decide +kernel
theorem dX8_digits_13 : decode cX8_digits 13 = .ok (.aload_n 0, 1) := by decide +kernel
theorem dX8_digits_14 : decode cX8_digits 14 = .ok (.getfield 190, 3) := by decide +kernel
theorem dX8_digits_17 : decode cX8_digits 17 = .ok (.iconst (-1), 1) := by decide +kernel
theorem dX8_digits_18 : decode cX8_digits 18 = .ok (.if_icmp .ne 33, 3) := by decide +kernel
theorem dX8_digits_21 : decode cX8_digits 21 = .ok (.aload_n 0, 1) := by decide +kernel
theorem dX8_digits_22 : decode cX8_digits 22 = .ok (.invokevirtual 193, 3) := by decide +kernel
theorem dX8_digits_25 : decode cX8_digits 25 = .ok (.bipush 48, 2) := by decide +kernel
theorem dX8_digits_27 : decode cX8_digits 27 = .ok (.bipush 57, 2) := by decide +kernel
theorem dX8_digits_29 : decode cX8_digits 29 = .ok (.invokestatic 66, 3) := by decide +kernel
theorem dX8_digits_32 : decode cX8_digits 32 = .ok (.ifCond .eq 19, 3) := by decide +kernel
theorem dX8_digits_35 : decode cX8_digits 35 = .ok (.bipush 10, 2) := by decide +kernel
theorem dX8_digits_37 : decode cX8_digits 37 = .ok (.iload_n 2, 1) := by decide +kernel
theorem dX8_digits_38 : decode cX8_digits 38 = .ok (.imul, 1) := by decide +kernel
theorem dX8_digits_39 : decode cX8_digits 39 = .ok (.aload_n 0, 1) := by decide +kernel
theorem dX8_digits_40 : decode cX8_digits 40 = .ok (.bipush 48, 2) := by decide +kernel
theorem dX8_digits_42 : decode cX8_digits 42 = .ok (.bipush 57, 2) := by decide +kernel
theorem dX8_digits_44 : decode cX8_digits 44 = .ok (.invokevirtual 196, 3) := by decide +kernel
theorem dX8_digits_47 : decode cX8_digits 47 = .ok (.iadd, 1) := by decide +kernel
theorem dX8_digits_48 : decode cX8_digits 48 = .ok (.goto 4, 3) := by decide +kernel
theorem dX8_digits_51 : decode cX8_digits 51 = .ok (.iload_n 2, 1) := by decide +kernel
theorem dX8_digits_52 : decode cX8_digits 52 = .ok (.ireturn, 1) := by decide +kernel
theorem dX8_kind_0 : decode cX8_kind 0 = .ok (.iconst 0, 1) := by decide +kernel
theorem dX8_kind_1 : decode cX8_kind 1 = .ok (.istore_n 1, 1) := by decide +kernel
theorem dX8_kind_2 : decode cX8_kind 2 = .ok (.iconst 0, 1) := by decide +kernel
theorem dX8_kind_3 : decode cX8_kind 3 = .ok (.istore_n 2, 1) := by decide +kernel
theorem dX8_kind_4 : decode cX8_kind 4 = .ok (.iconst 0, 1) := by decide +kernel
theorem dX8_kind_5 : decode cX8_kind 5 = .ok (.istore_n 3, 1) := by decide +kernel
theorem dX8_kind_6 : decode cX8_kind 6 = .ok (.iload_n 3, 1) := by decide +kernel
theorem dX8_kind_7 : decode cX8_kind 7 = .ok (.bipush 8, 2) := by decide +kernel
theorem dX8_kind_9 : decode cX8_kind 9 = .ok (.if_icmp .ge 55, 3) := by decide +kernel
theorem dX8_kind_12 : decode cX8_kind 12 = .ok (.aload_n 0, 1) := by decide +kernel
theorem dX8_kind_13 : decode cX8_kind 13 = .ok (.invokevirtual 193, 3) := by decide +kernel
theorem dX8_kind_16 : decode cX8_kind 16 = .ok (.ldc 199, 2) := by decide +kernel
theorem dX8_kind_18 : decode cX8_kind 18 = .ok (.iload_n 3, 1) := by decide +kernel
theorem dX8_kind_19 : decode cX8_kind 19 = .ok (.invokevirtual 201, 3) := by decide +kernel
theorem dX8_kind_22 : decode cX8_kind 22 = .ok (.if_icmp .ne 7, 3) := by decide +kernel
theorem dX8_kind_25 : decode cX8_kind 25 = .ok (.iconst 1, 1) := by decide +kernel
theorem dX8_kind_26 : decode cX8_kind 26 = .ok (.goto 4, 3) := by decide +kernel
theorem dX8_kind_29 : decode cX8_kind 29 = .ok (.iconst 0, 1) := by decide +kernel
theorem dX8_kind_30 : decode cX8_kind 30 = .ok (.istore 4, 2) := by decide +kernel
theorem dX8_kind_32 : decode cX8_kind 32 = .ok (.iload 4, 2) := by decide +kernel
theorem dX8_kind_34 : decode cX8_kind 34 = .ok (.ifCond .eq 7, 3) := by decide +kernel
theorem dX8_kind_37 : decode cX8_kind 37 = .ok (.iload_n 3, 1) := by decide +kernel
theorem dX8_kind_38 : decode cX8_kind 38 = .ok (.goto 4, 3) := by decide +kernel
theorem dX8_kind_41 : decode cX8_kind 41 = .ok (.iload_n 1, 1) := by decide +kernel
theorem dX8_kind_42 : decode cX8_kind 42 = .ok (.istore_n 1, 1) := by decide +kernel
theorem dX8_kind_43 : decode cX8_kind 43 = .ok (.iload_n 2, 1) := by decide +kernel
theorem dX8_kind_44 : decode cX8_kind 44 = .ok (.ifCond .ne 8, 3) := by decide +kernel
theorem dX8_kind_47 : decode cX8_kind 47 = .ok (.iload 4, 2) := by decide +kernel
theorem dX8_kind_49 : decode cX8_kind 49 = .ok (.ifCond .eq 7, 3) := by decide +kernel
theorem dX8_kind_52 : decode cX8_kind 52 = .ok (.iconst 1, 1) := by decide +kernel
theorem dX8_kind_53 : decode cX8_kind 53 = .ok (.goto 4, 3) := by decide +kernel
theorem dX8_kind_56 : decode cX8_kind 56 = .ok (.iconst 0, 1) := by decide +kernel
theorem dX8_kind_57 : decode cX8_kind 57 = .ok (.istore_n 2, 1) := by decide +kernel
theorem dX8_kind_58 : decode cX8_kind 58 = .ok (.iinc 3 1, 3) := by decide +kernel
theorem dX8_kind_61 : decode cX8_kind 61 = .ok (.goto (-55), 3) := by decide +kernel
theorem dX8_kind_64 : decode cX8_kind 64 = .ok (.aload_n 0, 1) := by decide +kernel
theorem dX8_kind_65 : decode cX8_kind 65 = .ok (.iload_n 2, 1) := by decide +kernel
theorem dX8_kind_66 : decode cX8_kind 66 = .ok (.ifCond .ne 11, 3) := by decide +kernel
theorem dX8_kind_69 : decode cX8_kind 69 = .ok (.aload_n 0, 1) := by decide +kernel
theorem dX8_kind_70 : decode cX8_kind 70 = .ok (.getfield 190, 3) := by decide +kernel
theorem dX8_kind_73 : decode cX8_kind 73 = .ok (.iconst (-1), 1) := by decide +kernel
theorem dX8_kind_74 : decode cX8_kind 74 = .ok (.if_icmp .eq 10, 3) := by decide +kernel
theorem dX8_kind_77 : decode cX8_kind 77 = .ok (.aload_n 0, 1) := by decide +kernel
theorem dX8_kind_78 : decode cX8_kind 78 = .ok (.getfield 190, 3) := by decide +kernel
theorem dX8_kind_81 : decode cX8_kind 81 = .ok (.goto 7, 3) := by decide +kernel
theorem dX8_kind_84 : decode cX8_kind 84 = .ok (.aload_n 0, 1) := by decide +kernel
theorem dX8_kind_85 : decode cX8_kind 85 = .ok (.getfield 184, 3) := by decide +kernel
theorem dX8_kind_88 : decode cX8_kind 88 = .ok (.putfield 190, 3) := by decide +kernel
theorem dX8_kind_91 : decode cX8_kind 91 = .ok (.aload_n 0, 1) := by decide +kernel
theorem dX8_kind_92 : decode cX8_kind 92 = .ok (.dup, 1) := by decide +kernel
theorem dX8_kind_93 : decode cX8_kind 93 = .ok (.getfield 184, 3) := by decide +kernel
theorem dX8_kind_96 : decode cX8_kind 96 = .ok (.iload_n 2, 1) := by decide +kernel
theorem dX8_kind_97 : decode cX8_kind 97 = .ok (.ifCond .eq 7, 3) := by decide +kernel
theorem dX8_kind_100 : decode cX8_kind 100 = .ok (.iconst 1, 1) := by decide +kernel
theorem dX8_kind_101 : decode cX8_kind 101 = .ok (.goto 4, 3) := by decide +kernel
theorem dX8_kind_104 : decode cX8_kind 104 = .ok (.iconst 0, 1) := by decide +kernel
theorem dX8_kind_105 : decode cX8_kind 105 = .ok (.iadd, 1) := by decide +kernel
theorem dX8_kind_106 : decode cX8_kind 106 = .ok (.putfield 184, 3) := by decide +kernel
theorem dX8_kind_109 : decode cX8_kind 109 = .ok (.iload_n 1, 1) := by decide +kernel
theorem dX8_kind_110 : decode cX8_kind 110 = .ok (.ireturn, 1) := by decide +kernel
theorem dX8_readsCommand_0 : decode cX8_readsCommand 0 = .ok (.aload_n 0, 1) := by decide +kernel
theorem dX8_readsCommand_1 : decode cX8_readsCommand 1 = .ok (.invokevirtual 207, 3) := by decide +kernel
theorem dX8_readsCommand_4 : decode cX8_readsCommand 4 = .ok (.istore_n 1, 1) := by decide +kernel
theorem dX8_readsCommand_5 : decode cX8_readsCommand 5 = .ok (.aload_n 0, 1) := by decide +kernel
theorem dX8_readsCommand_6 : decode cX8_readsCommand 6 = .ok (.getfield 32, 3) := by decide +kernel
theorem dX8_readsCommand_9 : decode cX8_readsCommand 9 = .ok (.aload_n 0, 1) := by decide +kernel
theorem dX8_readsCommand_10 : decode cX8_readsCommand 10 = .ok (.getfield 210, 3) := by decide +kernel
theorem dX8_readsCommand_13 : decode cX8_readsCommand 13 = .ok (.iload_n 1, 1) := by decide +kernel
theorem dX8_readsCommand_14 : decode cX8_readsCommand 14 = .ok (.iastore, 1) := by decide +kernel
theorem dX8_readsCommand_15 : decode cX8_readsCommand 15 = .ok (.aload_n 0, 1) := by decide +kernel
theorem dX8_readsCommand_16 : decode cX8_readsCommand 16 = .ok (.getfield 35, 3) := by decide +kernel
theorem dX8_readsCommand_19 : decode cX8_readsCommand 19 = .ok (.iconst 2, 1) := by decide +kernel
theorem dX8_readsCommand_20 : decode cX8_readsCommand 20 = .ok (.aload_n 0, 1) := by decide +kernel
theorem dX8_readsCommand_21 : decode cX8_readsCommand 21 = .ok (.getfield 210, 3) := by decide +kernel
theorem dX8_readsCommand_24 : decode cX8_readsCommand 24 = .ok (.imul, 1) := by decide +kernel
theorem dX8_readsCommand_25 : decode cX8_readsCommand 25 = .ok (.iload_n 1, 1) := by decide +kernel
theorem dX8_readsCommand_26 : decode cX8_readsCommand 26 = .ok (.iconst 3, 1) := by decide +kernel
theorem dX8_readsCommand_27 : decode cX8_readsCommand 27 = .ok (.if_icmp .ne 7, 3) := by decide +kernel
theorem dX8_readsCommand_30 : decode cX8_readsCommand 30 = .ok (.iconst 0, 1) := by decide +kernel
theorem dX8_readsCommand_31 : decode cX8_readsCommand 31 = .ok (.goto 23, 3) := by decide +kernel
theorem dX8_readsCommand_34 : decode cX8_readsCommand 34 = .ok (.aload_n 0, 1) := by decide +kernel
theorem dX8_readsCommand_35 : decode cX8_readsCommand 35 = .ok (.iload_n 1, 1) := by decide +kernel
theorem dX8_readsCommand_36 : decode cX8_readsCommand 36 = .ok (.iconst 1, 1) := by decide +kernel
theorem dX8_readsCommand_37 : decode cX8_readsCommand 37 = .ok (.if_icmp .eq 9, 3) := by decide +kernel
theorem dX8_readsCommand_40 : decode cX8_readsCommand 40 = .ok (.iload_n 1, 1) := by decide +kernel
theorem dX8_readsCommand_41 : decode cX8_readsCommand 41 = .ok (.bipush 7, 2) := by decide +kernel
theorem dX8_readsCommand_43 : decode cX8_readsCommand 43 = .ok (.if_icmp .ne 7, 3) := by decide +kernel
theorem dX8_readsCommand_46 : decode cX8_readsCommand 46 = .ok (.iconst 1, 1) := by decide +kernel
theorem dX8_readsCommand_47 : decode cX8_readsCommand 47 = .ok (.goto 4, 3) := by decide +kernel
theorem dX8_readsCommand_50 : decode cX8_readsCommand 50 = .ok (.iconst 0, 1) := by decide +kernel
theorem dX8_readsCommand_51 : decode cX8_readsCommand 51 = .ok (.invokevirtual 213, 3) := by decide +kernel
theorem dX8_readsCommand_54 : decode cX8_readsCommand 54 = .ok (.iastore, 1) := by decide +kernel
theorem dX8_readsCommand_55 : decode cX8_readsCommand 55 = .ok (.iload_n 1, 1) := by decide +kernel
theorem dX8_readsCommand_56 : decode cX8_readsCommand 56 = .ok (.iconst 2, 1) := by decide +kernel
theorem dX8_readsCommand_57 : decode cX8_readsCommand 57 = .ok (.if_icmp .eq 8, 3) := by decide +kernel
theorem dX8_readsCommand_60 : decode cX8_readsCommand 60 = .ok (.iload_n 1, 1) := by decide +kernel
theorem dX8_readsCommand_61 : decode cX8_readsCommand 61 = .ok (.iconst 5, 1) := by decide +kernel
theorem dX8_readsCommand_62 : decode cX8_readsCommand 62 = .ok (.if_icmp .ne 50, 3) := by decide +kernel
theorem dX8_readsCommand_65 : decode cX8_readsCommand 65 = .ok (.iload_n 1, 1) := by decide +kernel
theorem dX8_readsCommand_66 : decode cX8_readsCommand 66 = .ok (.iconst 2, 1) := by decide +kernel
theorem dX8_readsCommand_67 : decode cX8_readsCommand 67 = .ok (.if_icmp .ne 8, 3) := by decide +kernel
theorem dX8_readsCommand_70 : decode cX8_readsCommand 70 = .ok (.bipush 42, 2) := by decide +kernel
theorem dX8_readsCommand_72 : decode cX8_readsCommand 72 = .ok (.goto 5, 3) := by decide +kernel
theorem dX8_readsCommand_75 : decode cX8_readsCommand 75 = .ok (.bipush 61, 2) := by decide +kernel
theorem dX8_readsCommand_77 : decode cX8_readsCommand 77 = .ok (.istore_n 2, 1) := by decide +kernel
theorem dX8_readsCommand_78 : decode cX8_readsCommand 78 = .ok (.aload_n 0, 1) := by decide +kernel
theorem dX8_readsCommand_79 : decode cX8_readsCommand 79 = .ok (.iload_n 2, 1) := by decide +kernel
theorem dX8_readsCommand_80 : decode cX8_readsCommand 80 = .ok (.iload_n 2, 1) := by decide +kernel
theorem dX8_readsCommand_81 : decode cX8_readsCommand 81 = .ok (.invokevirtual 196, 3) := by decide +kernel
theorem dX8_readsCommand_84 : decode cX8_readsCommand 84 = .ok (.istore_n 3, 1) := by decide +kernel
theorem dX8_readsCommand_85 : decode cX8_readsCommand 85 = .ok (.aload_n 0, 1) := by decide +kernel
theorem dX8_readsCommand_86 : decode cX8_readsCommand 86 = .ok (.getfield 35, 3) := by decide +kernel
theorem dX8_readsCommand_89 : decode cX8_readsCommand 89 = .ok (.iconst 2, 1) := by decide +kernel
theorem dX8_readsCommand_90 : decode cX8_readsCommand 90 = .ok (.aload_n 0, 1) := by decide +kernel
theorem dX8_readsCommand_91 : decode cX8_readsCommand 91 = .ok (.getfield 210, 3) := by decide +kernel
theorem dX8_readsCommand_94 : decode cX8_readsCommand 94 = .ok (.imul, 1) := by decide +kernel
theorem dX8_readsCommand_95 : decode cX8_readsCommand 95 = .ok (.iconst 1, 1) := by decide +kernel
theorem dX8_readsCommand_96 : decode cX8_readsCommand 96 = .ok (.iadd, 1) := by decide +kernel
theorem dX8_readsCommand_97 : decode cX8_readsCommand 97 = .ok (.aload_n 0, 1) := by decide +kernel
theorem dX8_readsCommand_98 : decode cX8_readsCommand 98 = .ok (.iload_n 1, 1) := by decide +kernel
theorem dX8_readsCommand_99 : decode cX8_readsCommand 99 = .ok (.iconst 5, 1) := by decide +kernel
theorem dX8_readsCommand_100 : decode cX8_readsCommand 100 = .ok (.if_icmp .ne 7, 3) := by decide +kernel
theorem dX8_readsCommand_103 : decode cX8_readsCommand 103 = .ok (.iconst 1, 1) := by decide +kernel
theorem dX8_readsCommand_104 : decode cX8_readsCommand 104 = .ok (.goto 4, 3) := by decide +kernel
theorem dX8_readsCommand_107 : decode cX8_readsCommand 107 = .ok (.iconst 0, 1) := by decide +kernel
theorem dX8_readsCommand_108 : decode cX8_readsCommand 108 = .ok (.invokevirtual 213, 3) := by decide +kernel
theorem dX8_readsCommand_111 : decode cX8_readsCommand 111 = .ok (.iastore, 1) := by decide +kernel
theorem dX8_readsCommand_112 : decode cX8_readsCommand 112 = .ok (.aload_n 0, 1) := by decide +kernel
theorem dX8_readsCommand_113 : decode cX8_readsCommand 113 = .ok (.dup, 1) := by decide +kernel
theorem dX8_readsCommand_114 : decode cX8_readsCommand 114 = .ok (.getfield 210, 3) := by decide +kernel
theorem dX8_readsCommand_117 : decode cX8_readsCommand 117 = .ok (.iconst 1, 1) := by decide +kernel
theorem dX8_readsCommand_118 : decode cX8_readsCommand 118 = .ok (.iadd, 1) := by decide +kernel
theorem dX8_readsCommand_119 : decode cX8_readsCommand 119 = .ok (.putfield 210, 3) := by decide +kernel
theorem dX8_readsCommand_122 : decode cX8_readsCommand 122 = .ok (.return_, 1) := by decide +kernel
theorem dX8_readsAll_0 : decode cX8_readsAll 0 = .ok (.aload_n 0, 1) := by decide +kernel
theorem dX8_readsAll_1 : decode cX8_readsAll 1 = .ok (.iconst 0, 1) := by decide +kernel
theorem dX8_readsAll_2 : decode cX8_readsAll 2 = .ok (.putfield 184, 3) := by decide +kernel
theorem dX8_readsAll_5 : decode cX8_readsAll 5 = .ok (.aload_n 0, 1) := by decide +kernel
theorem dX8_readsAll_6 : decode cX8_readsAll 6 = .ok (.iconst (-1), 1) := by decide +kernel
theorem dX8_readsAll_7 : decode cX8_readsAll 7 = .ok (.putfield 190, 3) := by decide +kernel
theorem dX8_readsAll_10 : decode cX8_readsAll 10 = .ok (.aload_n 0, 1) := by decide +kernel
theorem dX8_readsAll_11 : decode cX8_readsAll 11 = .ok (.iconst 0, 1) := by decide +kernel
theorem dX8_readsAll_12 : decode cX8_readsAll 12 = .ok (.putfield 210, 3) := by decide +kernel
theorem dX8_readsAll_15 : decode cX8_readsAll 15 = .ok (.aload_n 0, 1) := by decide +kernel
theorem dX8_readsAll_16 : decode cX8_readsAll 16 = .ok (.invokevirtual 217, 3) := by decide +kernel
theorem dX8_readsAll_19 : decode cX8_readsAll 19 = .ok (.aload_n 0, 1) := by decide +kernel
theorem dX8_readsAll_20 : decode cX8_readsAll 20 = .ok (.getfield 190, 3) := by decide +kernel
theorem dX8_readsAll_23 : decode cX8_readsAll 23 = .ok (.iconst (-1), 1) := by decide +kernel
theorem dX8_readsAll_24 : decode cX8_readsAll 24 = .ok (.if_icmp .ne 38, 3) := by decide +kernel
theorem dX8_readsAll_27 : decode cX8_readsAll 27 = .ok (.aload_n 0, 1) := by decide +kernel
theorem dX8_readsAll_28 : decode cX8_readsAll 28 = .ok (.getfield 184, 3) := by decide +kernel
theorem dX8_readsAll_31 : decode cX8_readsAll 31 = .ok (.aload_n 0, 1) := by decide +kernel
theorem dX8_readsAll_32 : decode cX8_readsAll 32 = .ok (.getfield 187, 3) := by decide +kernel
theorem dX8_readsAll_35 : decode cX8_readsAll 35 = .ok (.if_icmp .ge 27, 3) := by decide +kernel
theorem dX8_readsAll_38 : decode cX8_readsAll 38 = .ok (.aload_n 0, 1) := by decide +kernel
theorem dX8_readsAll_39 : decode cX8_readsAll 39 = .ok (.bipush 59, 2) := by decide +kernel
theorem dX8_readsAll_41 : decode cX8_readsAll 41 = .ok (.bipush 59, 2) := by decide +kernel
theorem dX8_readsAll_43 : decode cX8_readsAll 43 = .ok (.invokevirtual 196, 3) := by decide +kernel
theorem dX8_readsAll_46 : decode cX8_readsAll 46 = .ok (.istore_n 1, 1) := by decide +kernel
theorem dX8_readsAll_47 : decode cX8_readsAll 47 = .ok (.aload_n 0, 1) := by decide +kernel
theorem dX8_readsAll_48 : decode cX8_readsAll 48 = .ok (.getfield 190, 3) := by decide +kernel
theorem dX8_readsAll_51 : decode cX8_readsAll 51 = .ok (.iconst (-1), 1) := by decide +kernel
theorem dX8_readsAll_52 : decode cX8_readsAll 52 = .ok (.if_icmp .ne 7, 3) := by decide +kernel
theorem dX8_readsAll_55 : decode cX8_readsAll 55 = .ok (.aload_n 0, 1) := by decide +kernel
theorem dX8_readsAll_56 : decode cX8_readsAll 56 = .ok (.invokevirtual 217, 3) := by decide +kernel
theorem dX8_readsAll_59 : decode cX8_readsAll 59 = .ok (.goto (-40), 3) := by decide +kernel
theorem dX8_readsAll_62 : decode cX8_readsAll 62 = .ok (.return_, 1) := by decide +kernel
theorem dX8_does_0 : decode cX8_does 0 = .ok (.iload_n 1, 1) := by decide +kernel
theorem dX8_does_1 : decode cX8_does 1 = .ok (.tableswitch 86 0 6 #[43, 49, 55, 62, 67, 73, 80], 43) := by decide +kernel
theorem dX8_does_44 : decode cX8_does 44 = .ok (.aload_n 0, 1) := by decide +kernel
theorem dX8_does_45 : decode cX8_does 45 = .ok (.iload_n 2, 1) := by decide +kernel
theorem dX8_does_46 : decode cX8_does 46 = .ok (.invokevirtual 128, 3) := by decide +kernel
theorem dX8_does_49 : decode cX8_does 49 = .ok (.ireturn, 1) := by decide +kernel
theorem dX8_does_50 : decode cX8_does 50 = .ok (.aload_n 0, 1) := by decide +kernel
theorem dX8_does_51 : decode cX8_does 51 = .ok (.iload_n 2, 1) := by decide +kernel
theorem dX8_does_52 : decode cX8_does 52 = .ok (.invokevirtual 118, 3) := by decide +kernel
theorem dX8_does_55 : decode cX8_does 55 = .ok (.ireturn, 1) := by decide +kernel
theorem dX8_does_56 : decode cX8_does 56 = .ok (.aload_n 0, 1) := by decide +kernel
theorem dX8_does_57 : decode cX8_does 57 = .ok (.iload_n 2, 1) := by decide +kernel
theorem dX8_does_58 : decode cX8_does 58 = .ok (.iload_n 3, 1) := by decide +kernel
theorem dX8_does_59 : decode cX8_does 59 = .ok (.invokevirtual 144, 3) := by decide +kernel
theorem dX8_does_62 : decode cX8_does 62 = .ok (.ireturn, 1) := by decide +kernel
theorem dX8_does_63 : decode cX8_does 63 = .ok (.aload_n 0, 1) := by decide +kernel
theorem dX8_does_64 : decode cX8_does 64 = .ok (.invokevirtual 147, 3) := by decide +kernel
theorem dX8_does_67 : decode cX8_does 67 = .ok (.ireturn, 1) := by decide +kernel
theorem dX8_does_68 : decode cX8_does 68 = .ok (.aload_n 0, 1) := by decide +kernel
theorem dX8_does_69 : decode cX8_does 69 = .ok (.iload_n 2, 1) := by decide +kernel
theorem dX8_does_70 : decode cX8_does 70 = .ok (.invokevirtual 150, 3) := by decide +kernel
theorem dX8_does_73 : decode cX8_does 73 = .ok (.ireturn, 1) := by decide +kernel
theorem dX8_does_74 : decode cX8_does 74 = .ok (.aload_n 0, 1) := by decide +kernel
theorem dX8_does_75 : decode cX8_does 75 = .ok (.iload_n 2, 1) := by decide +kernel
theorem dX8_does_76 : decode cX8_does 76 = .ok (.iload_n 3, 1) := by decide +kernel
theorem dX8_does_77 : decode cX8_does 77 = .ok (.invokevirtual 153, 3) := by decide +kernel
theorem dX8_does_80 : decode cX8_does 80 = .ok (.ireturn, 1) := by decide +kernel
theorem dX8_does_81 : decode cX8_does 81 = .ok (.aload_n 0, 1) := by decide +kernel
theorem dX8_does_82 : decode cX8_does 82 = .ok (.iload_n 2, 1) := by decide +kernel
theorem dX8_does_83 : decode cX8_does 83 = .ok (.invokevirtual 134, 3) := by decide +kernel
theorem dX8_does_86 : decode cX8_does 86 = .ok (.ireturn, 1) := by decide +kernel
theorem dX8_does_87 : decode cX8_does 87 = .ok (.aload_n 0, 1) := by decide +kernel
theorem dX8_does_88 : decode cX8_does 88 = .ok (.iload_n 2, 1) := by decide +kernel
theorem dX8_does_89 : decode cX8_does 89 = .ok (.invokevirtual 162, 3) := by decide +kernel
theorem dX8_does_92 : decode cX8_does 92 = .ok (.ireturn, 1) := by decide +kernel
theorem dX8_commands_0 : decode cX8_commands 0 = .ok (.aload_n 0, 1) := by decide +kernel
theorem dX8_commands_1 : decode cX8_commands 1 = .ok (.aload_n 0, 1) := by decide +kernel
theorem dX8_commands_2 : decode cX8_commands 2 = .ok (.getfield 181, 3) := by decide +kernel
theorem dX8_commands_5 : decode cX8_commands 5 = .ok (.putfield 187, 3) := by decide +kernel
theorem dX8_commands_8 : decode cX8_commands 8 = .ok (.aload_n 0, 1) := by decide +kernel
theorem dX8_commands_9 : decode cX8_commands 9 = .ok (.iconst 0, 1) := by decide +kernel
theorem dX8_commands_10 : decode cX8_commands 10 = .ok (.putfield 181, 3) := by decide +kernel
theorem dX8_commands_13 : decode cX8_commands 13 = .ok (.aload_n 0, 1) := by decide +kernel
theorem dX8_commands_14 : decode cX8_commands 14 = .ok (.invokevirtual 220, 3) := by decide +kernel
theorem dX8_commands_17 : decode cX8_commands 17 = .ok (.aload_n 0, 1) := by decide +kernel
theorem dX8_commands_18 : decode cX8_commands 18 = .ok (.aload_n 0, 1) := by decide +kernel
theorem dX8_commands_19 : decode cX8_commands 19 = .ok (.getfield 190, 3) := by decide +kernel
theorem dX8_commands_22 : decode cX8_commands 22 = .ok (.putfield 25, 3) := by decide +kernel
theorem dX8_commands_25 : decode cX8_commands 25 = .ok (.aload_n 0, 1) := by decide +kernel
theorem dX8_commands_26 : decode cX8_commands 26 = .ok (.aload_n 0, 1) := by decide +kernel
theorem dX8_commands_27 : decode cX8_commands 27 = .ok (.getfield 190, 3) := by decide +kernel
theorem dX8_commands_30 : decode cX8_commands 30 = .ok (.iconst (-1), 1) := by decide +kernel
theorem dX8_commands_31 : decode cX8_commands 31 = .ok (.if_icmp .eq 7, 3) := by decide +kernel
theorem dX8_commands_34 : decode cX8_commands 34 = .ok (.iconst 1, 1) := by decide +kernel
theorem dX8_commands_35 : decode cX8_commands 35 = .ok (.goto 4, 3) := by decide +kernel
theorem dX8_commands_38 : decode cX8_commands 38 = .ok (.iconst 0, 1) := by decide +kernel
theorem dX8_commands_39 : decode cX8_commands 39 = .ok (.putfield 38, 3) := by decide +kernel
theorem dX8_commands_42 : decode cX8_commands 42 = .ok (.aload_n 0, 1) := by decide +kernel
theorem dX8_commands_43 : decode cX8_commands 43 = .ok (.getfield 38, 3) := by decide +kernel
theorem dX8_commands_46 : decode cX8_commands 46 = .ok (.ifCond .eq 5, 3) := by decide +kernel
theorem dX8_commands_49 : decode cX8_commands 49 = .ok (.iconst 0, 1) := by decide +kernel
theorem dX8_commands_50 : decode cX8_commands 50 = .ok (.ireturn, 1) := by decide +kernel
theorem dX8_commands_51 : decode cX8_commands 51 = .ok (.aload_n 0, 1) := by decide +kernel
theorem dX8_commands_52 : decode cX8_commands 52 = .ok (.invokevirtual 89, 3) := by decide +kernel
theorem dX8_commands_55 : decode cX8_commands 55 = .ok (.iconst 0, 1) := by decide +kernel
theorem dX8_commands_56 : decode cX8_commands 56 = .ok (.istore_n 1, 1) := by decide +kernel
theorem dX8_commands_57 : decode cX8_commands 57 = .ok (.iconst 0, 1) := by decide +kernel
theorem dX8_commands_58 : decode cX8_commands 58 = .ok (.istore_n 2, 1) := by decide +kernel
theorem dX8_commands_59 : decode cX8_commands 59 = .ok (.iload_n 2, 1) := by decide +kernel
theorem dX8_commands_60 : decode cX8_commands 60 = .ok (.aload_n 0, 1) := by decide +kernel
theorem dX8_commands_61 : decode cX8_commands 61 = .ok (.getfield 210, 3) := by decide +kernel
theorem dX8_commands_64 : decode cX8_commands 64 = .ok (.if_icmp .ge 47, 3) := by decide +kernel
theorem dX8_commands_67 : decode cX8_commands 67 = .ok (.aload_n 0, 1) := by decide +kernel
theorem dX8_commands_68 : decode cX8_commands 68 = .ok (.getfield 41, 3) := by decide +kernel
theorem dX8_commands_71 : decode cX8_commands 71 = .ok (.ifCond .ne 40, 3) := by decide +kernel
theorem dX8_commands_74 : decode cX8_commands 74 = .ok (.iload_n 2, 1) := by decide +kernel
theorem dX8_commands_75 : decode cX8_commands 75 = .ok (.istore_n 1, 1) := by decide +kernel
theorem dX8_commands_76 : decode cX8_commands 76 = .ok (.aload_n 0, 1) := by decide +kernel
theorem dX8_commands_77 : decode cX8_commands 77 = .ok (.aload_n 0, 1) := by decide +kernel
theorem dX8_commands_78 : decode cX8_commands 78 = .ok (.getfield 32, 3) := by decide +kernel
theorem dX8_commands_81 : decode cX8_commands 81 = .ok (.iload_n 2, 1) := by decide +kernel
theorem dX8_commands_82 : decode cX8_commands 82 = .ok (.iaload, 1) := by decide +kernel
theorem dX8_commands_83 : decode cX8_commands 83 = .ok (.aload_n 0, 1) := by decide +kernel
theorem dX8_commands_84 : decode cX8_commands 84 = .ok (.getfield 35, 3) := by decide +kernel
theorem dX8_commands_87 : decode cX8_commands 87 = .ok (.iconst 2, 1) := by decide +kernel
theorem dX8_commands_88 : decode cX8_commands 88 = .ok (.iload_n 2, 1) := by decide +kernel
theorem dX8_commands_89 : decode cX8_commands 89 = .ok (.imul, 1) := by decide +kernel
theorem dX8_commands_90 : decode cX8_commands 90 = .ok (.iaload, 1) := by decide +kernel
theorem dX8_commands_91 : decode cX8_commands 91 = .ok (.aload_n 0, 1) := by decide +kernel
theorem dX8_commands_92 : decode cX8_commands 92 = .ok (.getfield 35, 3) := by decide +kernel
theorem dX8_commands_95 : decode cX8_commands 95 = .ok (.iconst 2, 1) := by decide +kernel
theorem dX8_commands_96 : decode cX8_commands 96 = .ok (.iload_n 2, 1) := by decide +kernel
theorem dX8_commands_97 : decode cX8_commands 97 = .ok (.imul, 1) := by decide +kernel
theorem dX8_commands_98 : decode cX8_commands 98 = .ok (.iconst 1, 1) := by decide +kernel
theorem dX8_commands_99 : decode cX8_commands 99 = .ok (.iadd, 1) := by decide +kernel
theorem dX8_commands_100 : decode cX8_commands 100 = .ok (.iaload, 1) := by decide +kernel
theorem dX8_commands_101 : decode cX8_commands 101 = .ok (.invokevirtual 223, 3) := by decide +kernel
theorem dX8_commands_104 : decode cX8_commands 104 = .ok (.istore_n 3, 1) := by decide +kernel
theorem dX8_commands_105 : decode cX8_commands 105 = .ok (.iinc 2 1, 3) := by decide +kernel
theorem dX8_commands_108 : decode cX8_commands 108 = .ok (.goto (-49), 3) := by decide +kernel
theorem dX8_commands_111 : decode cX8_commands 111 = .ok (.aload_n 0, 1) := by decide +kernel
theorem dX8_commands_112 : decode cX8_commands 112 = .ok (.aload_n 0, 1) := by decide +kernel
theorem dX8_commands_113 : decode cX8_commands 113 = .ok (.getfield 210, 3) := by decide +kernel
theorem dX8_commands_116 : decode cX8_commands 116 = .ok (.iload_n 1, 1) := by decide +kernel
theorem dX8_commands_117 : decode cX8_commands 117 = .ok (.iconst 2, 1) := by decide +kernel
theorem dX8_commands_118 : decode cX8_commands 118 = .ok (.invokevirtual 100, 3) := by decide +kernel
theorem dX8_commands_121 : decode cX8_commands 121 = .ok (.ireturn, 1) := by decide +kernel
theorem dX8_faultPosition_0 : decode cX8_faultPosition 0 = .ok (.aload_n 0, 1) := by decide +kernel
theorem dX8_faultPosition_1 : decode cX8_faultPosition 1 = .ok (.iconst 0, 1) := by decide +kernel
theorem dX8_faultPosition_2 : decode cX8_faultPosition 2 = .ok (.putfield 38, 3) := by decide +kernel
theorem dX8_faultPosition_5 : decode cX8_faultPosition 5 = .ok (.aload_n 0, 1) := by decide +kernel
theorem dX8_faultPosition_6 : decode cX8_faultPosition 6 = .ok (.getfield 25, 3) := by decide +kernel
theorem dX8_faultPosition_9 : decode cX8_faultPosition 9 = .ok (.ireturn, 1) := by decide +kernel
