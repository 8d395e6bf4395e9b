theorem dX0_init_0 : decode cX0_init 0 = .ok (.aload_n 0, 1) := by decide +kernel
theorem dX0_init_1 : decode cX0_init 1 = .ok (.invokespecial 3, 3) := by decide +kernel
theorem dX0_init_4 : decode cX0_init 4 = .ok (.aload_n 0, 1) := by decide +kernel
theorem dX0_init_5 : decode cX0_init 5 = .ok (.bipush 6, 2) := by decide +kernel
theorem dX0_init_7 : decode cX0_init 7 = .ok (.newarray .int, 2) := by decide +kernel
theorem dX0_init_9 : decode cX0_init 9 = .ok (.putfield 9, 3) := by decide +kernel
theorem dX0_init_12 : decode cX0_init 12 = .ok (.aload_n 0, 1) := by decide +kernel
theorem dX0_init_13 : decode cX0_init 13 = .ok (.bipush 6, 2) := by decide +kernel
theorem dX0_init_15 : decode cX0_init 15 = .ok (.newarray .int, 2) := by decide +kernel
theorem dX0_init_17 : decode cX0_init 17 = .ok (.putfield 13, 3) := by decide +kernel
theorem dX0_init_20 : decode cX0_init 20 = .ok (.aload_n 0, 1) := by decide +kernel
theorem dX0_init_21 : decode cX0_init 21 = .ok (.bipush 6, 2) := by decide +kernel
theorem dX0_init_23 : decode cX0_init 23 = .ok (.newarray .int, 2) := by decide +kernel
theorem dX0_init_25 : decode cX0_init 25 = .ok (.putfield 16, 3) := by decide +kernel
theorem dX0_init_28 : decode cX0_init 28 = .ok (.aload_n 0, 1) := by decide +kernel
theorem dX0_init_29 : decode cX0_init 29 = .ok (.bipush 6, 2) := by decide +kernel
theorem dX0_init_31 : decode cX0_init 31 = .ok (.newarray .long, 2) := by decide +kernel
theorem dX0_init_33 : decode cX0_init 33 = .ok (.putfield 19, 3) := by decide +kernel
theorem dX0_init_36 : decode cX0_init 36 = .ok (.aload_n 0, 1) := by decide +kernel
theorem dX0_init_37 : decode cX0_init 37 = .ok (.bipush 6, 2) := by decide +kernel
theorem dX0_init_39 : decode cX0_init 39 = .ok (.newarray .long, 2) := by decide +kernel
theorem dX0_init_41 : decode cX0_init 41 = .ok (.putfield 23, 3) := by decide +kernel
theorem dX0_init_44 : decode cX0_init 44 = .ok (.iconst 0, 1) := by decide +kernel
theorem dX0_init_45 : decode cX0_init 45 = .ok (.istore_n 1, 1) := by decide +kernel
theorem dX0_init_46 : decode cX0_init 46 = .ok (.iload_n 1, 1) := by decide +kernel
theorem dX0_init_47 : decode cX0_init 47 = .ok (.bipush 6, 2) := by decide +kernel
theorem dX0_init_49 : decode cX0_init 49 = .ok (.if_icmp .ge 44, 3) := by decide +kernel
theorem dX0_init_52 : decode cX0_init 52 = .ok (.aload_n 0, 1) := by decide +kernel
theorem dX0_init_53 : decode cX0_init 53 = .ok (.getfield 9, 3) := by decide +kernel
theorem dX0_init_56 : decode cX0_init 56 = .ok (.iload_n 1, 1) := by decide +kernel
theorem dX0_init_57 : decode cX0_init 57 = .ok (.sipush 2000, 3) := by decide +kernel
theorem dX0_init_60 : decode cX0_init 60 = .ok (.iastore, 1) := by decide +kernel
theorem dX0_init_61 : decode cX0_init 61 = .ok (.aload_n 0, 1) := by decide +kernel
theorem dX0_init_62 : decode cX0_init 62 = .ok (.getfield 13, 3) := by decide +kernel
theorem dX0_init_65 : decode cX0_init 65 = .ok (.iload_n 1, 1) := by decide +kernel
theorem dX0_init_66 : decode cX0_init 66 = .ok (.iconst 1, 1) := by decide +kernel
theorem dX0_init_67 : decode cX0_init 67 = .ok (.iastore, 1) := by decide +kernel
theorem dX0_init_68 : decode cX0_init 68 = .ok (.aload_n 0, 1) := by decide +kernel
theorem dX0_init_69 : decode cX0_init 69 = .ok (.getfield 16, 3) := by decide +kernel
theorem dX0_init_72 : decode cX0_init 72 = .ok (.iload_n 1, 1) := by decide +kernel
theorem dX0_init_73 : decode cX0_init 73 = .ok (.iconst 1, 1) := by decide +kernel
theorem dX0_init_74 : decode cX0_init 74 = .ok (.iastore, 1) := by decide +kernel
theorem dX0_init_75 : decode cX0_init 75 = .ok (.aload_n 0, 1) := by decide +kernel
theorem dX0_init_76 : decode cX0_init 76 = .ok (.getfield 19, 3) := by decide +kernel
theorem dX0_init_79 : decode cX0_init 79 = .ok (.iload_n 1, 1) := by decide +kernel
theorem dX0_init_80 : decode cX0_init 80 = .ok (.sipush 2000, 3) := by decide +kernel
theorem dX0_init_83 : decode cX0_init 83 = .ok (.invokestatic 26, 3) := by decide +kernel
theorem dX0_init_86 : decode cX0_init 86 = .ok (.lastore, 1) := by decide +kernel
theorem dX0_init_87 : decode cX0_init 87 = .ok (.iinc 1 1, 3) := by decide +kernel
theorem dX0_init_90 : decode cX0_init 90 = .ok (.goto (-44), 3) := by decide +kernel
theorem dX0_init_93 : decode cX0_init 93 = .ok (.return_, 1) := by decide +kernel
theorem dX0_hand_0 : decode cX0_hand 0 = .ok (.iload_n 1, 1) := by decide +kernel
theorem dX0_hand_1 : decode cX0_hand 1 = .ok (.iconst 0, 1) := by decide +kernel
theorem dX0_hand_2 : decode cX0_hand 2 = .ok (.bipush 23, 2) := by decide +kernel
theorem dX0_hand_4 : decode cX0_hand 4 = .ok (.invokestatic 30, 3) := by decide +kernel
theorem dX0_hand_7 : decode cX0_hand 7 = .ok (.iload_n 2, 1) := by decide +kernel
theorem dX0_hand_8 : decode cX0_hand 8 = .ok (.iconst 0, 1) := by decide +kernel
theorem dX0_hand_9 : decode cX0_hand 9 = .ok (.bipush 59, 2) := by decide +kernel
theorem dX0_hand_11 : decode cX0_hand 11 = .ok (.invokestatic 30, 3) := by decide +kernel
theorem dX0_hand_14 : decode cX0_hand 14 = .ok (.iload_n 3, 1) := by decide +kernel
theorem dX0_hand_15 : decode cX0_hand 15 = .ok (.iconst 0, 1) := by decide +kernel
theorem dX0_hand_16 : decode cX0_hand 16 = .ok (.bipush 59, 2) := by decide +kernel
theorem dX0_hand_18 : decode cX0_hand 18 = .ok (.invokestatic 30, 3) := by decide +kernel
theorem dX0_hand_21 : decode cX0_hand 21 = .ok (.iload 4, 2) := by decide +kernel
theorem dX0_hand_23 : decode cX0_hand 23 = .ok (.iconst 0, 1) := by decide +kernel
theorem dX0_hand_24 : decode cX0_hand 24 = .ok (.ldc 34, 2) := by decide +kernel
theorem dX0_hand_26 : decode cX0_hand 26 = .ok (.invokestatic 30, 3) := by decide +kernel
theorem dX0_hand_29 : decode cX0_hand 29 = .ok (.aload_n 0, 1) := by decide +kernel
theorem dX0_hand_30 : decode cX0_hand 30 = .ok (.getfield 35, 3) := by decide +kernel
theorem dX0_hand_33 : decode cX0_hand 33 = .ok (.istore 5, 2) := by decide +kernel
theorem dX0_hand_35 : decode cX0_hand 35 = .ok (.aload_n 0, 1) := by decide +kernel
theorem dX0_hand_36 : decode cX0_hand 36 = .ok (.iload_n 1, 1) := by decide +kernel
theorem dX0_hand_37 : decode cX0_hand 37 = .ok (.putfield 35, 3) := by decide +kernel
theorem dX0_hand_40 : decode cX0_hand 40 = .ok (.aload_n 0, 1) := by decide +kernel
theorem dX0_hand_41 : decode cX0_hand 41 = .ok (.iload_n 2, 1) := by decide +kernel
theorem dX0_hand_42 : decode cX0_hand 42 = .ok (.putfield 39, 3) := by decide +kernel
theorem dX0_hand_45 : decode cX0_hand 45 = .ok (.aload_n 0, 1) := by decide +kernel
theorem dX0_hand_46 : decode cX0_hand 46 = .ok (.iload_n 3, 1) := by decide +kernel
theorem dX0_hand_47 : decode cX0_hand 47 = .ok (.putfield 42, 3) := by decide +kernel
theorem dX0_hand_50 : decode cX0_hand 50 = .ok (.aload_n 0, 1) := by decide +kernel
theorem dX0_hand_51 : decode cX0_hand 51 = .ok (.iload 4, 2) := by decide +kernel
theorem dX0_hand_53 : decode cX0_hand 53 = .ok (.putfield 45, 3) := by decide +kernel
theorem dX0_hand_56 : decode cX0_hand 56 = .ok (.iload 5, 2) := by decide +kernel
theorem dX0_hand_58 : decode cX0_hand 58 = .ok (.ireturn, 1) := by decide +kernel
theorem dX0_of_0 : decode cX0_of 0 = .ok (.iload_n 1, 1) := by decide +kernel
theorem dX0_of_1 : decode cX0_of 1 = .ok (.invokestatic 48, 3) := by decide +kernel
theorem dX0_of_4 : decode cX0_of 4 = .ok (.iload_n 2, 1) := by decide +kernel
theorem dX0_of_5 : decode cX0_of 5 = .ok (.sipush (-9999), 3) := by decide +kernel
theorem dX0_of_8 : decode cX0_of 8 = .ok (.sipush 9999, 3) := by decide +kernel
theorem dX0_of_11 : decode cX0_of 11 = .ok (.invokestatic 30, 3) := by decide +kernel
theorem dX0_of_14 : decode cX0_of 14 = .ok (.iload_n 3, 1) := by decide +kernel
theorem dX0_of_15 : decode cX0_of 15 = .ok (.iconst 1, 1) := by decide +kernel
theorem dX0_of_16 : decode cX0_of 16 = .ok (.bipush 12, 2) := by decide +kernel
theorem dX0_of_18 : decode cX0_of 18 = .ok (.invokestatic 30, 3) := by decide +kernel
theorem dX0_of_21 : decode cX0_of 21 = .ok (.iload 4, 2) := by decide +kernel
theorem dX0_of_23 : decode cX0_of 23 = .ok (.iconst 1, 1) := by decide +kernel
theorem dX0_of_24 : decode cX0_of 24 = .ok (.bipush 31, 2) := by decide +kernel
theorem dX0_of_26 : decode cX0_of 26 = .ok (.invokestatic 30, 3) := by decide +kernel
theorem dX0_of_29 : decode cX0_of 29 = .ok (.iload 5, 2) := by decide +kernel
theorem dX0_of_31 : decode cX0_of 31 = .ok (.iconst 0, 1) := by decide +kernel
theorem dX0_of_32 : decode cX0_of 32 = .ok (.bipush 6, 2) := by decide +kernel
theorem dX0_of_34 : decode cX0_of 34 = .ok (.invokestatic 30, 3) := by decide +kernel
theorem dX0_of_37 : decode cX0_of 37 = .ok (.aload_n 0, 1) := by decide +kernel
theorem dX0_of_38 : decode cX0_of 38 = .ok (.iload_n 1, 1) := by decide +kernel
theorem dX0_of_39 : decode cX0_of 39 = .ok (.iload_n 2, 1) := by decide +kernel
theorem dX0_of_40 : decode cX0_of 40 = .ok (.iload_n 3, 1) := by decide +kernel
theorem dX0_of_41 : decode cX0_of 41 = .ok (.iload 4, 2) := by decide +kernel
theorem dX0_of_43 : decode cX0_of 43 = .ok (.aload_n 0, 1) := by decide +kernel
theorem dX0_of_44 : decode cX0_of 44 = .ok (.iload 5, 2) := by decide +kernel
theorem dX0_of_46 : decode cX0_of 46 = .ok (.invokevirtual 52, 3) := by decide +kernel
theorem dX0_of_49 : decode cX0_of 49 = .ok (.invokevirtual 55, 3) := by decide +kernel
theorem dX0_of_52 : decode cX0_of 52 = .ok (.ireturn, 1) := by decide +kernel
theorem dX0_ofDay_0 : decode cX0_ofDay 0 = .ok (.iload_n 1, 1) := by decide +kernel
theorem dX0_ofDay_1 : decode cX0_ofDay 1 = .ok (.invokestatic 48, 3) := by decide +kernel
theorem dX0_ofDay_4 : decode cX0_ofDay 4 = .ok (.iload_n 2, 1) := by decide +kernel
theorem dX0_ofDay_5 : decode cX0_ofDay 5 = .ok (.ldc 59, 2) := by decide +kernel
theorem dX0_ofDay_7 : decode cX0_ofDay 7 = .ok (.ldc 60, 2) := by decide +kernel
theorem dX0_ofDay_9 : decode cX0_ofDay 9 = .ok (.invokestatic 30, 3) := by decide +kernel
theorem dX0_ofDay_12 : decode cX0_ofDay 12 = .ok (.aload_n 0, 1) := by decide +kernel
theorem dX0_ofDay_13 : decode cX0_ofDay 13 = .ok (.iload_n 1, 1) := by decide +kernel
theorem dX0_ofDay_14 : decode cX0_ofDay 14 = .ok (.iload_n 2, 1) := by decide +kernel
theorem dX0_ofDay_15 : decode cX0_ofDay 15 = .ok (.i2l, 1) := by decide +kernel
theorem dX0_ofDay_16 : decode cX0_ofDay 16 = .ok (.aload_n 0, 1) := by decide +kernel
theorem dX0_ofDay_17 : decode cX0_ofDay 17 = .ok (.iconst 2, 1) := by decide +kernel
theorem dX0_ofDay_18 : decode cX0_ofDay 18 = .ok (.invokevirtual 52, 3) := by decide +kernel
theorem dX0_ofDay_21 : decode cX0_ofDay 21 = .ok (.invokevirtual 61, 3) := by decide +kernel
theorem dX0_ofDay_24 : decode cX0_ofDay 24 = .ok (.ireturn, 1) := by decide +kernel
theorem dX0_copy_0 : decode cX0_copy 0 = .ok (.iload_n 1, 1) := by decide +kernel
theorem dX0_copy_1 : decode cX0_copy 1 = .ok (.invokestatic 48, 3) := by decide +kernel
theorem dX0_copy_4 : decode cX0_copy 4 = .ok (.iload_n 2, 1) := by decide +kernel
theorem dX0_copy_5 : decode cX0_copy 5 = .ok (.invokestatic 48, 3) := by decide +kernel
theorem dX0_copy_8 : decode cX0_copy 8 = .ok (.aload_n 0, 1) := by decide +kernel
theorem dX0_copy_9 : decode cX0_copy 9 = .ok (.iload_n 1, 1) := by decide +kernel
theorem dX0_copy_10 : decode cX0_copy 10 = .ok (.iload_n 2, 1) := by decide +kernel
theorem dX0_copy_11 : decode cX0_copy 11 = .ok (.aload_n 0, 1) := by decide +kernel
theorem dX0_copy_12 : decode cX0_copy 12 = .ok (.getfield 23, 3) := by decide +kernel
theorem dX0_copy_15 : decode cX0_copy 15 = .ok (.iload_n 2, 1) := by decide +kernel
theorem dX0_copy_16 : decode cX0_copy 16 = .ok (.laload, 1) := by decide +kernel
theorem dX0_copy_17 : decode cX0_copy 17 = .ok (.invokevirtual 65, 3) := by decide +kernel
theorem dX0_copy_20 : decode cX0_copy 20 = .ok (.ireturn, 1) := by decide +kernel
theorem dX0_takeDate_0 : decode cX0_takeDate 0 = .ok (.iload_n 1, 1) := by decide +kernel
theorem dX0_takeDate_1 : decode cX0_takeDate 1 = .ok (.invokestatic 48, 3) := by decide +kernel
theorem dX0_takeDate_4 : decode cX0_takeDate 4 = .ok (.iload_n 2, 1) := by decide +kernel
theorem dX0_takeDate_5 : decode cX0_takeDate 5 = .ok (.invokestatic 48, 3) := by decide +kernel
theorem dX0_takeDate_8 : decode cX0_takeDate 8 = .ok (.aload_n 0, 1) := by decide +kernel
theorem dX0_takeDate_9 : decode cX0_takeDate 9 = .ok (.iload_n 1, 1) := by decide +kernel
theorem dX0_takeDate_10 : decode cX0_takeDate 10 = .ok (.iload_n 2, 1) := by decide +kernel
theorem dX0_takeDate_11 : decode cX0_takeDate 11 = .ok (.aload_n 0, 1) := by decide +kernel
theorem dX0_takeDate_12 : decode cX0_takeDate 12 = .ok (.getfield 23, 3) := by decide +kernel
theorem dX0_takeDate_15 : decode cX0_takeDate 15 = .ok (.iload_n 1, 1) := by decide +kernel
theorem dX0_takeDate_16 : decode cX0_takeDate 16 = .ok (.laload, 1) := by decide +kernel
theorem dX0_takeDate_17 : decode cX0_takeDate 17 = .ok (.invokevirtual 65, 3) := by decide +kernel
theorem dX0_takeDate_20 : decode cX0_takeDate 20 = .ok (.ireturn, 1) := by decide +kernel
theorem dX0_takeTime_0 : decode cX0_takeTime 0 = .ok (.iload_n 1, 1) := by decide +kernel
theorem dX0_takeTime_1 : decode cX0_takeTime 1 = .ok (.invokestatic 48, 3) := by decide +kernel
theorem dX0_takeTime_4 : decode cX0_takeTime 4 = .ok (.iload_n 2, 1) := by decide +kernel
theorem dX0_takeTime_5 : decode cX0_takeTime 5 = .ok (.invokestatic 48, 3) := by decide +kernel
theorem dX0_takeTime_8 : decode cX0_takeTime 8 = .ok (.aload_n 0, 1) := by decide +kernel
theorem dX0_takeTime_9 : decode cX0_takeTime 9 = .ok (.iload_n 1, 1) := by decide +kernel
theorem dX0_takeTime_10 : decode cX0_takeTime 10 = .ok (.iload_n 1, 1) := by decide +kernel
theorem dX0_takeTime_11 : decode cX0_takeTime 11 = .ok (.aload_n 0, 1) := by decide +kernel
theorem dX0_takeTime_12 : decode cX0_takeTime 12 = .ok (.getfield 23, 3) := by decide +kernel
theorem dX0_takeTime_15 : decode cX0_takeTime 15 = .ok (.iload_n 2, 1) := by decide +kernel
theorem dX0_takeTime_16 : decode cX0_takeTime 16 = .ok (.laload, 1) := by decide +kernel
theorem dX0_takeTime_17 : decode cX0_takeTime 17 = .ok (.invokevirtual 65, 3) := by decide +kernel
theorem dX0_takeTime_20 : decode cX0_takeTime 20 = .ok (.ireturn, 1) := by decide +kernel
theorem dX0_withYear_0 : decode cX0_withYear 0 = .ok (.iload_n 1, 1) := by decide +kernel
theorem dX0_withYear_1 : decode cX0_withYear 1 = .ok (.invokestatic 48, 3) := by decide +kernel
theorem dX0_withYear_4 : decode cX0_withYear 4 = .ok (.iload_n 2, 1) := by decide +kernel
theorem dX0_withYear_5 : decode cX0_withYear 5 = .ok (.sipush (-9999), 3) := by decide +kernel
theorem dX0_withYear_8 : decode cX0_withYear 8 = .ok (.sipush 9999, 3) := by decide +kernel
theorem dX0_withYear_11 : decode cX0_withYear 11 = .ok (.invokestatic 30, 3) := by decide +kernel
theorem dX0_withYear_14 : decode cX0_withYear 14 = .ok (.aload_n 0, 1) := by decide +kernel
theorem dX0_withYear_15 : decode cX0_withYear 15 = .ok (.iload_n 1, 1) := by decide +kernel
theorem dX0_withYear_16 : decode cX0_withYear 16 = .ok (.iload_n 2, 1) := by decide +kernel
theorem dX0_withYear_17 : decode cX0_withYear 17 = .ok (.aload_n 0, 1) := by decide +kernel
theorem dX0_withYear_18 : decode cX0_withYear 18 = .ok (.getfield 13, 3) := by decide +kernel
theorem dX0_withYear_21 : decode cX0_withYear 21 = .ok (.iload_n 1, 1) := by decide +kernel
theorem dX0_withYear_22 : decode cX0_withYear 22 = .ok (.iaload, 1) := by decide +kernel
theorem dX0_withYear_23 : decode cX0_withYear 23 = .ok (.invokevirtual 69, 3) := by decide +kernel
theorem dX0_withYear_26 : decode cX0_withYear 26 = .ok (.ireturn, 1) := by decide +kernel
theorem dX0_withMonth_0 : decode cX0_withMonth 0 = .ok (.iload_n 1, 1) := by decide +kernel
theorem dX0_withMonth_1 : decode cX0_withMonth 1 = .ok (.invokestatic 48, 3) := by decide +kernel
theorem dX0_withMonth_4 : decode cX0_withMonth 4 = .ok (.iload_n 2, 1) := by decide +kernel
theorem dX0_withMonth_5 : decode cX0_withMonth 5 = .ok (.iconst 1, 1) := by decide +kernel
theorem dX0_withMonth_6 : decode cX0_withMonth 6 = .ok (.bipush 12, 2) := by decide +kernel
theorem dX0_withMonth_8 : decode cX0_withMonth 8 = .ok (.invokestatic 30, 3) := by decide +kernel
theorem dX0_withMonth_11 : decode cX0_withMonth 11 = .ok (.aload_n 0, 1) := by decide +kernel
theorem dX0_withMonth_12 : decode cX0_withMonth 12 = .ok (.iload_n 1, 1) := by decide +kernel
theorem dX0_withMonth_13 : decode cX0_withMonth 13 = .ok (.aload_n 0, 1) := by decide +kernel
theorem dX0_withMonth_14 : decode cX0_withMonth 14 = .ok (.getfield 9, 3) := by decide +kernel
theorem dX0_withMonth_17 : decode cX0_withMonth 17 = .ok (.iload_n 1, 1) := by decide +kernel
theorem dX0_withMonth_18 : decode cX0_withMonth 18 = .ok (.iaload, 1) := by decide +kernel
theorem dX0_withMonth_19 : decode cX0_withMonth 19 = .ok (.iload_n 2, 1) := by decide +kernel
theorem dX0_withMonth_20 : decode cX0_withMonth 20 = .ok (.invokevirtual 69, 3) := by decide +kernel
theorem dX0_withMonth_23 : decode cX0_withMonth 23 = .ok (.ireturn, 1) := by decide +kernel
theorem dX0_withDayOfMonth_0 : decode cX0_withDayOfMonth 0 = .ok (.iload_n 1, 1) := by decide +kernel
theorem dX0_withDayOfMonth_1 : decode cX0_withDayOfMonth 1 = .ok (.invokestatic 48, 3) := by decide +kernel
theorem dX0_withDayOfMonth_4 : decode cX0_withDayOfMonth 4 = .ok (.iload_n 2, 1) := by decide +kernel
theorem dX0_withDayOfMonth_5 : decode cX0_withDayOfMonth 5 = .ok (.iconst 1, 1) := by decide +kernel
theorem dX0_withDayOfMonth_6 : decode cX0_withDayOfMonth 6 = .ok (.bipush 31, 2) := by decide +kernel
theorem dX0_withDayOfMonth_8 : decode cX0_withDayOfMonth 8 = .ok (.invokestatic 30, 3) := by decide +kernel
theorem dX0_withDayOfMonth_11 : decode cX0_withDayOfMonth 11 = .ok (.aload_n 0, 1) := by decide +kernel
theorem dX0_withDayOfMonth_12 : decode cX0_withDayOfMonth 12 = .ok (.iload_n 1, 1) := by decide +kernel
theorem dX0_withDayOfMonth_13 : decode cX0_withDayOfMonth 13 = .ok (.aload_n 0, 1) := by decide +kernel
theorem dX0_withDayOfMonth_14 : decode cX0_withDayOfMonth 14 = .ok (.getfield 9, 3) := by decide +kernel
theorem dX0_withDayOfMonth_17 : decode cX0_withDayOfMonth 17 = .ok (.iload_n 1, 1) := by decide +kernel
theorem dX0_withDayOfMonth_18 : decode cX0_withDayOfMonth 18 = .ok (.iaload, 1) := by decide +kernel
theorem dX0_withDayOfMonth_19 : decode cX0_withDayOfMonth 19 = .ok (.aload_n 0, 1) := by decide +kernel
theorem dX0_withDayOfMonth_20 : decode cX0_withDayOfMonth 20 = .ok (.getfield 13, 3) := by decide +kernel
theorem dX0_withDayOfMonth_23 : decode cX0_withDayOfMonth 23 = .ok (.iload_n 1, 1) := by decide +kernel
theorem dX0_withDayOfMonth_24 : decode cX0_withDayOfMonth 24 = .ok (.iaload, 1) := by decide +kernel
theorem dX0_withDayOfMonth_25 : decode cX0_withDayOfMonth 25 = .ok (.iload_n 2, 1) := by decide +kernel
theorem dX0_withDayOfMonth_26 : decode cX0_withDayOfMonth 26 = .ok (.aload_n 0, 1) := by decide +kernel
theorem dX0_withDayOfMonth_27 : decode cX0_withDayOfMonth 27 = .ok (.getfield 23, 3) := by decide +kernel
theorem dX0_withDayOfMonth_30 : decode cX0_withDayOfMonth 30 = .ok (.iload_n 1, 1) := by decide +kernel
theorem dX0_withDayOfMonth_31 : decode cX0_withDayOfMonth 31 = .ok (.laload, 1) := by decide +kernel
theorem dX0_withDayOfMonth_32 : decode cX0_withDayOfMonth 32 = .ok (.invokevirtual 55, 3) := by decide +kernel
theorem dX0_withDayOfMonth_35 : decode cX0_withDayOfMonth 35 = .ok (.ireturn, 1) := by decide +kernel
theorem dX0_withDayOfYear_0 : decode cX0_withDayOfYear 0 = .ok (.iload_n 1, 1) := by decide +kernel
theorem dX0_withDayOfYear_1 : decode cX0_withDayOfYear 1 = .ok (.invokestatic 48, 3) := by decide +kernel
theorem dX0_withDayOfYear_4 : decode cX0_withDayOfYear 4 = .ok (.iload_n 2, 1) := by decide +kernel
theorem dX0_withDayOfYear_5 : decode cX0_withDayOfYear 5 = .ok (.iconst 1, 1) := by decide +kernel
theorem dX0_withDayOfYear_6 : decode cX0_withDayOfYear 6 = .ok (.sipush 366, 3) := by decide +kernel
theorem dX0_withDayOfYear_9 : decode cX0_withDayOfYear 9 = .ok (.invokestatic 30, 3) := by decide +kernel
theorem dX0_withDayOfYear_12 : decode cX0_withDayOfYear 12 = .ok (.iload_n 2, 1) := by decide +kernel
theorem dX0_withDayOfYear_13 : decode cX0_withDayOfYear 13 = .ok (.aload_n 0, 1) := by decide +kernel
theorem dX0_withDayOfYear_14 : decode cX0_withDayOfYear 14 = .ok (.getfield 9, 3) := by decide +kernel
theorem dX0_withDayOfYear_17 : decode cX0_withDayOfYear 17 = .ok (.iload_n 1, 1) := by decide +kernel
theorem dX0_withDayOfYear_18 : decode cX0_withDayOfYear 18 = .ok (.iaload, 1) := by decide +kernel
theorem dX0_withDayOfYear_19 : decode cX0_withDayOfYear 19 = .ok (.invokestatic 73, 3) := by decide +kernel
theorem dX0_withDayOfYear_22 : decode cX0_withDayOfYear 22 = .ok (.if_icmp .le 8, 3) := by decide +kernel
theorem dX0_withDayOfYear_25 : decode cX0_withDayOfYear 25 = .ok (.aload_n 0, 1) := by decide +kernel
theorem dX0_withDayOfYear_26 : decode cX0_withDayOfYear 26 = .ok (.invokevirtual 77, 3) := by decide +kernel
theorem dX0_withDayOfYear_29 : decode cX0_withDayOfYear 29 = .ok (.ireturn, 1) := by decide +kernel
theorem dX0_withDayOfYear_30 : decode cX0_withDayOfYear 30 = .ok (.aload_n 0, 1) := by decide +kernel
theorem dX0_withDayOfYear_31 : decode cX0_withDayOfYear 31 = .ok (.iload_n 1, 1) := by decide +kernel
theorem dX0_withDayOfYear_32 : decode cX0_withDayOfYear 32 = .ok (.aload_n 0, 1) := by decide +kernel
theorem dX0_withDayOfYear_33 : decode cX0_withDayOfYear 33 = .ok (.getfield 9, 3) := by decide +kernel
theorem dX0_withDayOfYear_36 : decode cX0_withDayOfYear 36 = .ok (.iload_n 1, 1) := by decide +kernel
theorem dX0_withDayOfYear_37 : decode cX0_withDayOfYear 37 = .ok (.iaload, 1) := by decide +kernel
theorem dX0_withDayOfYear_38 : decode cX0_withDayOfYear 38 = .ok (.invokestatic 26, 3) := by decide +kernel
theorem dX0_withDayOfYear_41 : decode cX0_withDayOfYear 41 = .ok (.iload_n 2, 1) := by decide +kernel
theorem dX0_withDayOfYear_42 : decode cX0_withDayOfYear 42 = .ok (.i2l, 1) := by decide +kernel
theorem dX0_withDayOfYear_43 : decode cX0_withDayOfYear 43 = .ok (.ladd, 1) := by decide +kernel
theorem dX0_withDayOfYear_44 : decode cX0_withDayOfYear 44 = .ok (.lconst 1, 1) := by decide +kernel
theorem dX0_withDayOfYear_45 : decode cX0_withDayOfYear 45 = .ok (.lsub, 1) := by decide +kernel
theorem dX0_withDayOfYear_46 : decode cX0_withDayOfYear 46 = .ok (.aload_n 0, 1) := by decide +kernel
theorem dX0_withDayOfYear_47 : decode cX0_withDayOfYear 47 = .ok (.getfield 23, 3) := by decide +kernel
theorem dX0_withDayOfYear_50 : decode cX0_withDayOfYear 50 = .ok (.iload_n 1, 1) := by decide +kernel
theorem dX0_withDayOfYear_51 : decode cX0_withDayOfYear 51 = .ok (.laload, 1) := by decide +kernel
theorem dX0_withDayOfYear_52 : decode cX0_withDayOfYear 52 = .ok (.invokevirtual 61, 3) := by decide +kernel
theorem dX0_withDayOfYear_55 : decode cX0_withDayOfYear 55 = .ok (.ireturn, 1) := by decide +kernel
theorem dX0_withHour_0 : decode cX0_withHour 0 = .ok (.iload_n 1, 1) := by decide +kernel
theorem dX0_withHour_1 : decode cX0_withHour 1 = .ok (.invokestatic 48, 3) := by decide +kernel
theorem dX0_withHour_4 : decode cX0_withHour 4 = .ok (.iload_n 2, 1) := by decide +kernel
theorem dX0_withHour_5 : decode cX0_withHour 5 = .ok (.iconst 0, 1) := by decide +kernel
theorem dX0_withHour_6 : decode cX0_withHour 6 = .ok (.bipush 23, 2) := by decide +kernel
theorem dX0_withHour_8 : decode cX0_withHour 8 = .ok (.invokestatic 30, 3) := by decide +kernel
theorem dX0_withHour_11 : decode cX0_withHour 11 = .ok (.aload_n 0, 1) := by decide +kernel
theorem dX0_withHour_12 : decode cX0_withHour 12 = .ok (.getfield 23, 3) := by decide +kernel
theorem dX0_withHour_15 : decode cX0_withHour 15 = .ok (.iload_n 1, 1) := by decide +kernel
theorem dX0_withHour_16 : decode cX0_withHour 16 = .ok (.laload, 1) := by decide +kernel
theorem dX0_withHour_17 : decode cX0_withHour 17 = .ok (.lstore_n 3, 1) := by decide +kernel
theorem dX0_withHour_18 : decode cX0_withHour 18 = .ok (.aload_n 0, 1) := by decide +kernel
theorem dX0_withHour_19 : decode cX0_withHour 19 = .ok (.iload_n 1, 1) := by decide +kernel
theorem dX0_withHour_20 : decode cX0_withHour 20 = .ok (.iload_n 1, 1) := by decide +kernel
theorem dX0_withHour_21 : decode cX0_withHour 21 = .ok (.lload_n 3, 1) := by decide +kernel
theorem dX0_withHour_22 : decode cX0_withHour 22 = .ok (.iload_n 2, 1) := by decide +kernel
theorem dX0_withHour_23 : decode cX0_withHour 23 = .ok (.lload_n 3, 1) := by decide +kernel
theorem dX0_withHour_24 : decode cX0_withHour 24 = .ok (.invokestatic 81, 3) := by decide +kernel
theorem dX0_withHour_27 : decode cX0_withHour 27 = .ok (.isub, 1) := by decide +kernel
theorem dX0_withHour_28 : decode cX0_withHour 28 = .ok (.i2l, 1) := by decide +kernel
theorem dX0_withHour_29 : decode cX0_withHour 29 = .ok (.ldc2_w 85, 3) := by decide +kernel
theorem dX0_withHour_32 : decode cX0_withHour 32 = .ok (.lmul, 1) := by decide +kernel
theorem dX0_withHour_33 : decode cX0_withHour 33 = .ok (.ladd, 1) := by decide +kernel
theorem dX0_withHour_34 : decode cX0_withHour 34 = .ok (.invokevirtual 65, 3) := by decide +kernel
theorem dX0_withHour_37 : decode cX0_withHour 37 = .ok (.ireturn, 1) := by decide +kernel
theorem dX0_withMinute_0 : decode cX0_withMinute 0 = .ok (.iload_n 1, 1) := by decide +kernel
theorem dX0_withMinute_1 : decode cX0_withMinute 1 = .ok (.invokestatic 48, 3) := by decide +kernel
theorem dX0_withMinute_4 : decode cX0_withMinute 4 = .ok (.iload_n 2, 1) := by decide +kernel
theorem dX0_withMinute_5 : decode cX0_withMinute 5 = .ok (.iconst 0, 1) := by decide +kernel
theorem dX0_withMinute_6 : decode cX0_withMinute 6 = .ok (.bipush 59, 2) := by decide +kernel
theorem dX0_withMinute_8 : decode cX0_withMinute 8 = .ok (.invokestatic 30, 3) := by decide +kernel
theorem dX0_withMinute_11 : decode cX0_withMinute 11 = .ok (.aload_n 0, 1) := by decide +kernel
theorem dX0_withMinute_12 : decode cX0_withMinute 12 = .ok (.getfield 23, 3) := by decide +kernel
theorem dX0_withMinute_15 : decode cX0_withMinute 15 = .ok (.iload_n 1, 1) := by decide +kernel
theorem dX0_withMinute_16 : decode cX0_withMinute 16 = .ok (.laload, 1) := by decide +kernel
theorem dX0_withMinute_17 : decode cX0_withMinute 17 = .ok (.lstore_n 3, 1) := by decide +kernel
theorem dX0_withMinute_18 : decode cX0_withMinute 18 = .ok (.aload_n 0, 1) := by decide +kernel
theorem dX0_withMinute_19 : decode cX0_withMinute 19 = .ok (.iload_n 1, 1) := by decide +kernel
theorem dX0_withMinute_20 : decode cX0_withMinute 20 = .ok (.iload_n 1, 1) := by decide +kernel
theorem dX0_withMinute_21 : decode cX0_withMinute 21 = .ok (.lload_n 3, 1) := by decide +kernel
theorem dX0_withMinute_22 : decode cX0_withMinute 22 = .ok (.iload_n 2, 1) := by decide +kernel
theorem dX0_withMinute_23 : decode cX0_withMinute 23 = .ok (.lload_n 3, 1) := by decide +kernel
theorem dX0_withMinute_24 : decode cX0_withMinute 24 = .ok (.invokestatic 87, 3) := by decide +kernel
theorem dX0_withMinute_27 : decode cX0_withMinute 27 = .ok (.isub, 1) := by decide +kernel
theorem dX0_withMinute_28 : decode cX0_withMinute 28 = .ok (.i2l, 1) := by decide +kernel
theorem dX0_withMinute_29 : decode cX0_withMinute 29 = .ok (.ldc2_w 90, 3) := by decide +kernel
theorem dX0_withMinute_32 : decode cX0_withMinute 32 = .ok (.lmul, 1) := by decide +kernel
theorem dX0_withMinute_33 : decode cX0_withMinute 33 = .ok (.ladd, 1) := by decide +kernel
theorem dX0_withMinute_34 : decode cX0_withMinute 34 = .ok (.invokevirtual 65, 3) := by decide +kernel
theorem dX0_withMinute_37 : decode cX0_withMinute 37 = .ok (.ireturn, 1) := by decide +kernel
theorem dX0_withSecond_0 : decode cX0_withSecond 0 = .ok (.iload_n 1, 1) := by decide +kernel
theorem dX0_withSecond_1 : decode cX0_withSecond 1 = .ok (.invokestatic 48, 3) := by decide +kernel
theorem dX0_withSecond_4 : decode cX0_withSecond 4 = .ok (.iload_n 2, 1) := by decide +kernel
theorem dX0_withSecond_5 : decode cX0_withSecond 5 = .ok (.iconst 0, 1) := by decide +kernel
theorem dX0_withSecond_6 : decode cX0_withSecond 6 = .ok (.bipush 59, 2) := by decide +kernel
theorem dX0_withSecond_8 : decode cX0_withSecond 8 = .ok (.invokestatic 30, 3) := by decide +kernel
theorem dX0_withSecond_11 : decode cX0_withSecond 11 = .ok (.aload_n 0, 1) := by decide +kernel
theorem dX0_withSecond_12 : decode cX0_withSecond 12 = .ok (.getfield 23, 3) := by decide +kernel
theorem dX0_withSecond_15 : decode cX0_withSecond 15 = .ok (.iload_n 1, 1) := by decide +kernel
theorem dX0_withSecond_16 : decode cX0_withSecond 16 = .ok (.laload, 1) := by decide +kernel
theorem dX0_withSecond_17 : decode cX0_withSecond 17 = .ok (.lstore_n 3, 1) := by decide +kernel
theorem dX0_withSecond_18 : decode cX0_withSecond 18 = .ok (.aload_n 0, 1) := by decide +kernel
theorem dX0_withSecond_19 : decode cX0_withSecond 19 = .ok (.iload_n 1, 1) := by decide +kernel
theorem dX0_withSecond_20 : decode cX0_withSecond 20 = .ok (.iload_n 1, 1) := by decide +kernel
theorem dX0_withSecond_21 : decode cX0_withSecond 21 = .ok (.lload_n 3, 1) := by decide +kernel
theorem dX0_withSecond_22 : decode cX0_withSecond 22 = .ok (.iload_n 2, 1) := by decide +kernel
theorem dX0_withSecond_23 : decode cX0_withSecond 23 = .ok (.lload_n 3, 1) := by decide +kernel
theorem dX0_withSecond_24 : decode cX0_withSecond 24 = .ok (.invokestatic 92, 3) := by decide +kernel
theorem dX0_withSecond_27 : decode cX0_withSecond 27 = .ok (.isub, 1) := by decide +kernel
theorem dX0_withSecond_28 : decode cX0_withSecond 28 = .ok (.i2l, 1) := by decide +kernel
theorem dX0_withSecond_29 : decode cX0_withSecond 29 = .ok (.ldc2_w 95, 3) := by decide +kernel
theorem dX0_withSecond_32 : decode cX0_withSecond 32 = .ok (.lmul, 1) := by decide +kernel
theorem dX0_withSecond_33 : decode cX0_withSecond 33 = .ok (.ladd, 1) := by decide +kernel
theorem dX0_withSecond_34 : decode cX0_withSecond 34 = .ok (.invokevirtual 65, 3) := by decide +kernel
theorem dX0_withSecond_37 : decode cX0_withSecond 37 = .ok (.ireturn, 1) := by decide +kernel
theorem dX0_withNano_0 : decode cX0_withNano 0 = .ok (.iload_n 1, 1) := by decide +kernel
theorem dX0_withNano_1 : decode cX0_withNano 1 = .ok (.invokestatic 48, 3) := by decide +kernel
theorem dX0_withNano_4 : decode cX0_withNano 4 = .ok (.iload_n 2, 1) := by decide +kernel
theorem dX0_withNano_5 : decode cX0_withNano 5 = .ok (.iconst 0, 1) := by decide +kernel
theorem dX0_withNano_6 : decode cX0_withNano 6 = .ok (.ldc 34, 2) := by decide +kernel
theorem dX0_withNano_8 : decode cX0_withNano 8 = .ok (.invokestatic 30, 3) := by decide +kernel
theorem dX0_withNano_11 : decode cX0_withNano 11 = .ok (.aload_n 0, 1) := by decide +kernel
theorem dX0_withNano_12 : decode cX0_withNano 12 = .ok (.getfield 23, 3) := by decide +kernel
theorem dX0_withNano_15 : decode cX0_withNano 15 = .ok (.iload_n 1, 1) := by decide +kernel
theorem dX0_withNano_16 : decode cX0_withNano 16 = .ok (.laload, 1) := by decide +kernel
theorem dX0_withNano_17 : decode cX0_withNano 17 = .ok (.lstore_n 3, 1) := by decide +kernel
theorem dX0_withNano_18 : decode cX0_withNano 18 = .ok (.aload_n 0, 1) := by decide +kernel
theorem dX0_withNano_19 : decode cX0_withNano 19 = .ok (.iload_n 1, 1) := by decide +kernel
theorem dX0_withNano_20 : decode cX0_withNano 20 = .ok (.iload_n 1, 1) := by decide +kernel
theorem dX0_withNano_21 : decode cX0_withNano 21 = .ok (.lload_n 3, 1) := by decide +kernel
theorem dX0_withNano_22 : decode cX0_withNano 22 = .ok (.iload_n 2, 1) := by decide +kernel
theorem dX0_withNano_23 : decode cX0_withNano 23 = .ok (.i2l, 1) := by decide +kernel
theorem dX0_withNano_24 : decode cX0_withNano 24 = .ok (.ladd, 1) := by decide +kernel
theorem dX0_withNano_25 : decode cX0_withNano 25 = .ok (.lload_n 3, 1) := by decide +kernel
theorem dX0_withNano_26 : decode cX0_withNano 26 = .ok (.invokestatic 97, 3) := by decide +kernel
theorem dX0_withNano_29 : decode cX0_withNano 29 = .ok (.i2l, 1) := by decide +kernel
theorem dX0_withNano_30 : decode cX0_withNano 30 = .ok (.lsub, 1) := by decide +kernel
theorem dX0_withNano_31 : decode cX0_withNano 31 = .ok (.invokevirtual 65, 3) := by decide +kernel
theorem dX0_withNano_34 : decode cX0_withNano 34 = .ok (.ireturn, 1) := by decide +kernel
theorem dX0_truncate_0 : decode cX0_truncate 0 = .ok (.iload_n 1, 1) := by decide +kernel
theorem dX0_truncate_1 : decode cX0_truncate 1 = .ok (.invokestatic 48, 3) := by decide +kernel
theorem dX0_truncate_4 : decode cX0_truncate 4 = .ok (.iload_n 2, 1) := by decide +kernel
theorem dX0_truncate_5 : decode cX0_truncate 5 = .ok (.iconst 0, 1) := by decide +kernel
theorem dX0_truncate_6 : decode cX0_truncate 6 = .ok (.bipush 7, 2) := by decide +kernel
theorem dX0_truncate_8 : decode cX0_truncate 8 = .ok (.invokestatic 30, 3) := by decide +kernel
theorem dX0_truncate_11 : decode cX0_truncate 11 = .ok (.aload_n 0, 1) := by decide +kernel
theorem dX0_truncate_12 : decode cX0_truncate 12 = .ok (.iload_n 1, 1) := by decide +kernel
theorem dX0_truncate_13 : decode cX0_truncate 13 = .ok (.iload_n 1, 1) := by decide +kernel
theorem dX0_truncate_14 : decode cX0_truncate 14 = .ok (.aload_n 0, 1) := by decide +kernel
theorem dX0_truncate_15 : decode cX0_truncate 15 = .ok (.getfield 23, 3) := by decide +kernel
theorem dX0_truncate_18 : decode cX0_truncate 18 = .ok (.iload_n 1, 1) := by decide +kernel
theorem dX0_truncate_19 : decode cX0_truncate 19 = .ok (.laload, 1) := by decide +kernel
theorem dX0_truncate_20 : decode cX0_truncate 20 = .ok (.iload_n 2, 1) := by decide +kernel
theorem dX0_truncate_21 : decode cX0_truncate 21 = .ok (.invokestatic 100, 3) := by decide +kernel
theorem dX0_truncate_24 : decode cX0_truncate 24 = .ok (.invokevirtual 65, 3) := by decide +kernel
theorem dX0_truncate_27 : decode cX0_truncate 27 = .ok (.ireturn, 1) := by decide +kernel
theorem dX0_plusYears_0 : decode cX0_plusYears 0 = .ok (.iload_n 1, 1) := by decide +kernel
theorem dX0_plusYears_1 : decode cX0_plusYears 1 = .ok (.invokestatic 48, 3) := by decide +kernel
theorem dX0_plusYears_4 : decode cX0_plusYears 4 = .ok (.iload_n 2, 1) := by decide +kernel
theorem dX0_plusYears_5 : decode cX0_plusYears 5 = .ok (.ldc 104, 2) := by decide +kernel
theorem dX0_plusYears_7 : decode cX0_plusYears 7 = .ok (.ldc 105, 2) := by decide +kernel
theorem dX0_plusYears_9 : decode cX0_plusYears 9 = .ok (.invokestatic 30, 3) := by decide +kernel
theorem dX0_plusYears_12 : decode cX0_plusYears 12 = .ok (.aload_n 0, 1) := by decide +kernel
theorem dX0_plusYears_13 : decode cX0_plusYears 13 = .ok (.iload_n 1, 1) := by decide +kernel
theorem dX0_plusYears_14 : decode cX0_plusYears 14 = .ok (.ldc2_w 106, 3) := by decide +kernel
theorem dX0_plusYears_17 : decode cX0_plusYears 17 = .ok (.iload_n 2, 1) := by decide +kernel
theorem dX0_plusYears_18 : decode cX0_plusYears 18 = .ok (.i2l, 1) := by decide +kernel
theorem dX0_plusYears_19 : decode cX0_plusYears 19 = .ok (.lmul, 1) := by decide +kernel
theorem dX0_plusYears_20 : decode cX0_plusYears 20 = .ok (.invokevirtual 108, 3) := by decide +kernel
theorem dX0_plusYears_23 : decode cX0_plusYears 23 = .ok (.ireturn, 1) := by decide +kernel
theorem dX0_plusMonths_0 : decode cX0_plusMonths 0 = .ok (.iload_n 1, 1) := by decide +kernel
theorem dX0_plusMonths_1 : decode cX0_plusMonths 1 = .ok (.invokestatic 48, 3) := by decide +kernel
theorem dX0_plusMonths_4 : decode cX0_plusMonths 4 = .ok (.aload_n 0, 1) := by decide +kernel
theorem dX0_plusMonths_5 : decode cX0_plusMonths 5 = .ok (.iload_n 1, 1) := by decide +kernel
theorem dX0_plusMonths_6 : decode cX0_plusMonths 6 = .ok (.iload_n 2, 1) := by decide +kernel
theorem dX0_plusMonths_7 : decode cX0_plusMonths 7 = .ok (.i2l, 1) := by decide +kernel
theorem dX0_plusMonths_8 : decode cX0_plusMonths 8 = .ok (.invokevirtual 108, 3) := by decide +kernel
theorem dX0_plusMonths_11 : decode cX0_plusMonths 11 = .ok (.ireturn, 1) := by decide +kernel
theorem dX0_plusWeeks_0 : decode cX0_plusWeeks 0 = .ok (.iload_n 1, 1) := by decide +kernel
theorem dX0_plusWeeks_1 : decode cX0_plusWeeks 1 = .ok (.invokestatic 48, 3) := by decide +kernel
theorem dX0_plusWeeks_4 : decode cX0_plusWeeks 4 = .ok (.aload_n 0, 1) := by decide +kernel
theorem dX0_plusWeeks_5 : decode cX0_plusWeeks 5 = .ok (.iload_n 1, 1) := by decide +kernel
theorem dX0_plusWeeks_6 : decode cX0_plusWeeks 6 = .ok (.iload_n 2, 1) := by decide +kernel
theorem dX0_plusWeeks_7 : decode cX0_plusWeeks 7 = .ok (.i2l, 1) := by decide +kernel
theorem dX0_plusWeeks_8 : decode cX0_plusWeeks 8 = .ok (.bipush 8, 2) := by decide +kernel
theorem dX0_plusWeeks_10 : decode cX0_plusWeeks 10 = .ok (.invokevirtual 112, 3) := by decide +kernel
theorem dX0_plusWeeks_13 : decode cX0_plusWeeks 13 = .ok (.ireturn, 1) := by decide +kernel
theorem dX0_plusDays_0 : decode cX0_plusDays 0 = .ok (.iload_n 1, 1) := by decide +kernel
theorem dX0_plusDays_1 : decode cX0_plusDays 1 = .ok (.invokestatic 48, 3) := by decide +kernel
theorem dX0_plusDays_4 : decode cX0_plusDays 4 = .ok (.aload_n 0, 1) := by decide +kernel
theorem dX0_plusDays_5 : decode cX0_plusDays 5 = .ok (.iload_n 1, 1) := by decide +kernel
theorem dX0_plusDays_6 : decode cX0_plusDays 6 = .ok (.iload_n 2, 1) := by decide +kernel
theorem dX0_plusDays_7 : decode cX0_plusDays 7 = .ok (.i2l, 1) := by decide +kernel
theorem dX0_plusDays_8 : decode cX0_plusDays 8 = .ok (.bipush 7, 2) := by decide +kernel
theorem dX0_plusDays_10 : decode cX0_plusDays 10 = .ok (.invokevirtual 112, 3) := by decide +kernel
theorem dX0_plusDays_13 : decode cX0_plusDays 13 = .ok (.ireturn, 1) := by decide +kernel
theorem dX0_plusHours_0 : decode cX0_plusHours 0 = .ok (.iload_n 1, 1) := by decide +kernel
theorem dX0_plusHours_1 : decode cX0_plusHours 1 = .ok (.invokestatic 48, 3) := by decide +kernel
theorem dX0_plusHours_4 : decode cX0_plusHours 4 = .ok (.aload_n 0, 1) := by decide +kernel
theorem dX0_plusHours_5 : decode cX0_plusHours 5 = .ok (.iload_n 1, 1) := by decide +kernel
theorem dX0_plusHours_6 : decode cX0_plusHours 6 = .ok (.iload_n 2, 1) := by decide +kernel
theorem dX0_plusHours_7 : decode cX0_plusHours 7 = .ok (.i2l, 1) := by decide +kernel
theorem dX0_plusHours_8 : decode cX0_plusHours 8 = .ok (.iconst 5, 1) := by decide +kernel
theorem dX0_plusHours_9 : decode cX0_plusHours 9 = .ok (.invokevirtual 112, 3) := by decide +kernel
theorem dX0_plusHours_12 : decode cX0_plusHours 12 = .ok (.ireturn, 1) := by decide +kernel
theorem dX0_plusMinutes_0 : decode cX0_plusMinutes 0 = .ok (.iload_n 1, 1) := by decide +kernel
theorem dX0_plusMinutes_1 : decode cX0_plusMinutes 1 = .ok (.invokestatic 48, 3) := by decide +kernel
theorem dX0_plusMinutes_4 : decode cX0_plusMinutes 4 = .ok (.aload_n 0, 1) := by decide +kernel
theorem dX0_plusMinutes_5 : decode cX0_plusMinutes 5 = .ok (.iload_n 1, 1) := by decide +kernel
theorem dX0_plusMinutes_6 : decode cX0_plusMinutes 6 = .ok (.iload_n 2, 1) := by decide +kernel
theorem dX0_plusMinutes_7 : decode cX0_plusMinutes 7 = .ok (.i2l, 1) := by decide +kernel
theorem dX0_plusMinutes_8 : decode cX0_plusMinutes 8 = .ok (.iconst 4, 1) := by decide +kernel
theorem dX0_plusMinutes_9 : decode cX0_plusMinutes 9 = .ok (.invokevirtual 112, 3) := by decide +kernel
theorem dX0_plusMinutes_12 : decode cX0_plusMinutes 12 = .ok (.ireturn, 1) := by decide +kernel
theorem dX0_plusSeconds_0 : decode cX0_plusSeconds 0 = .ok (.iload_n 1, 1) := by decide +kernel
theorem dX0_plusSeconds_1 : decode cX0_plusSeconds 1 = .ok (.invokestatic 48, 3) := by decide +kernel
theorem dX0_plusSeconds_4 : decode cX0_plusSeconds 4 = .ok (.aload_n 0, 1) := by decide +kernel
theorem dX0_plusSeconds_5 : decode cX0_plusSeconds 5 = .ok (.iload_n 1, 1) := by decide +kernel
theorem dX0_plusSeconds_6 : decode cX0_plusSeconds 6 = .ok (.iload_n 2, 1) := by decide +kernel
theorem dX0_plusSeconds_7 : decode cX0_plusSeconds 7 = .ok (.i2l, 1) := by decide +kernel
theorem dX0_plusSeconds_8 : decode cX0_plusSeconds 8 = .ok (.iconst 3, 1) := by decide +kernel
theorem dX0_plusSeconds_9 : decode cX0_plusSeconds 9 = .ok (.invokevirtual 112, 3) := by decide +kernel
theorem dX0_plusSeconds_12 : decode cX0_plusSeconds 12 = .ok (.ireturn, 1) := by decide +kernel
theorem dX0_minusYears_0 : decode cX0_minusYears 0 = .ok (.iload_n 1, 1) := by decide +kernel
theorem dX0_minusYears_1 : decode cX0_minusYears 1 = .ok (.invokestatic 48, 3) := by decide +kernel
theorem dX0_minusYears_4 : decode cX0_minusYears 4 = .ok (.iload_n 2, 1) := by decide +kernel
theorem dX0_minusYears_5 : decode cX0_minusYears 5 = .ok (.ldc 104, 2) := by decide +kernel
theorem dX0_minusYears_7 : decode cX0_minusYears 7 = .ok (.ldc 105, 2) := by decide +kernel
theorem dX0_minusYears_9 : decode cX0_minusYears 9 = .ok (.invokestatic 30, 3) := by decide +kernel
theorem dX0_minusYears_12 : decode cX0_minusYears 12 = .ok (.aload_n 0, 1) := by decide +kernel
theorem dX0_minusYears_13 : decode cX0_minusYears 13 = .ok (.iload_n 1, 1) := by decide +kernel
theorem dX0_minusYears_14 : decode cX0_minusYears 14 = .ok (.ldc2_w 116, 3) := by decide +kernel
theorem dX0_minusYears_17 : decode cX0_minusYears 17 = .ok (.iload_n 2, 1) := by decide +kernel
theorem dX0_minusYears_18 : decode cX0_minusYears 18 = .ok (.i2l, 1) := by decide +kernel
theorem dX0_minusYears_19 : decode cX0_minusYears 19 = .ok (.lmul, 1) := by decide +kernel
theorem dX0_minusYears_20 : decode cX0_minusYears 20 = .ok (.invokevirtual 108, 3) := by decide +kernel
theorem dX0_minusYears_23 : decode cX0_minusYears 23 = .ok (.ireturn, 1) := by decide +kernel
theorem dX0_minusMonths_0 : decode cX0_minusMonths 0 = .ok (.iload_n 1, 1) := by decide +kernel
theorem dX0_minusMonths_1 : decode cX0_minusMonths 1 = .ok (.invokestatic 48, 3) := by decide +kernel
theorem dX0_minusMonths_4 : decode cX0_minusMonths 4 = .ok (.aload_n 0, 1) := by decide +kernel
theorem dX0_minusMonths_5 : decode cX0_minusMonths 5 = .ok (.iload_n 1, 1) := by decide +kernel
theorem dX0_minusMonths_6 : decode cX0_minusMonths 6 = .ok (.iload_n 2, 1) := by decide +kernel
theorem dX0_minusMonths_7 : decode cX0_minusMonths 7 = .ok (.i2l, 1) := by decide +kernel
theorem dX0_minusMonths_8 : decode cX0_minusMonths 8 = .ok (.lneg, 1) := by decide +kernel
theorem dX0_minusMonths_9 : decode cX0_minusMonths 9 = .ok (.invokevirtual 108, 3) := by decide +kernel
theorem dX0_minusMonths_12 : decode cX0_minusMonths 12 = .ok (.ireturn, 1) := by decide +kernel
theorem dX0_minusWeeks_0 : decode cX0_minusWeeks 0 = .ok (.iload_n 1, 1) := by decide +kernel
theorem dX0_minusWeeks_1 : decode cX0_minusWeeks 1 = .ok (.invokestatic 48, 3) := by decide +kernel
theorem dX0_minusWeeks_4 : decode cX0_minusWeeks 4 = .ok (.aload_n 0, 1) := by decide +kernel
theorem dX0_minusWeeks_5 : decode cX0_minusWeeks 5 = .ok (.iload_n 1, 1) := by decide +kernel
theorem dX0_minusWeeks_6 : decode cX0_minusWeeks 6 = .ok (.iload_n 2, 1) := by decide +kernel
theorem dX0_minusWeeks_7 : decode cX0_minusWeeks 7 = .ok (.i2l, 1) := by decide +kernel
theorem dX0_minusWeeks_8 : decode cX0_minusWeeks 8 = .ok (.lneg, 1) := by decide +kernel
theorem dX0_minusWeeks_9 : decode cX0_minusWeeks 9 = .ok (.bipush 8, 2) := by decide +kernel
theorem dX0_minusWeeks_11 : decode cX0_minusWeeks 11 = .ok (.invokevirtual 112, 3) := by decide +kernel
theorem dX0_minusWeeks_14 : decode cX0_minusWeeks 14 = .ok (.ireturn, 1) := by decide +kernel
theorem dX0_minusDays_0 : decode cX0_minusDays 0 = .ok (.iload_n 1, 1) := by decide +kernel
theorem dX0_minusDays_1 : decode cX0_minusDays 1 = .ok (.invokestatic 48, 3) := by decide +kernel
theorem dX0_minusDays_4 : decode cX0_minusDays 4 = .ok (.aload_n 0, 1) := by decide +kernel
theorem dX0_minusDays_5 : decode cX0_minusDays 5 = .ok (.iload_n 1, 1) := by decide +kernel
theorem dX0_minusDays_6 : decode cX0_minusDays 6 = .ok (.iload_n 2, 1) := by decide +kernel
theorem dX0_minusDays_7 : decode cX0_minusDays 7 = .ok (.i2l, 1) := by decide +kernel
theorem dX0_minusDays_8 : decode cX0_minusDays 8 = .ok (.lneg, 1) := by decide +kernel
theorem dX0_minusDays_9 : decode cX0_minusDays 9 = .ok (.bipush 7, 2) := by decide +kernel
theorem dX0_minusDays_11 : decode cX0_minusDays 11 = .ok (.invokevirtual 112, 3) := by decide +kernel
theorem dX0_minusDays_14 : decode cX0_minusDays 14 = .ok (.ireturn, 1) := by decide +kernel
theorem dX0_minusHours_0 : decode cX0_minusHours 0 = .ok (.iload_n 1, 1) := by decide +kernel
theorem dX0_minusHours_1 : decode cX0_minusHours 1 = .ok (.invokestatic 48, 3) := by decide +kernel
theorem dX0_minusHours_4 : decode cX0_minusHours 4 = .ok (.aload_n 0, 1) := by decide +kernel
theorem dX0_minusHours_5 : decode cX0_minusHours 5 = .ok (.iload_n 1, 1) := by decide +kernel
theorem dX0_minusHours_6 : decode cX0_minusHours 6 = .ok (.iload_n 2, 1) := by decide +kernel
theorem dX0_minusHours_7 : decode cX0_minusHours 7 = .ok (.i2l, 1) := by decide +kernel
theorem dX0_minusHours_8 : decode cX0_minusHours 8 = .ok (.lneg, 1) := by decide +kernel
theorem dX0_minusHours_9 : decode cX0_minusHours 9 = .ok (.iconst 5, 1) := by decide +kernel
theorem dX0_minusHours_10 : decode cX0_minusHours 10 = .ok (.invokevirtual 112, 3) := by decide +kernel
theorem dX0_minusHours_13 : decode cX0_minusHours 13 = .ok (.ireturn, 1) := by decide +kernel
theorem dX0_minusMinutes_0 : decode cX0_minusMinutes 0 = .ok (.iload_n 1, 1) := by decide +kernel
theorem dX0_minusMinutes_1 : decode cX0_minusMinutes 1 = .ok (.invokestatic 48, 3) := by decide +kernel
theorem dX0_minusMinutes_4 : decode cX0_minusMinutes 4 = .ok (.aload_n 0, 1) := by decide +kernel
theorem dX0_minusMinutes_5 : decode cX0_minusMinutes 5 = .ok (.iload_n 1, 1) := by decide +kernel
theorem dX0_minusMinutes_6 : decode cX0_minusMinutes 6 = .ok (.iload_n 2, 1) := by decide +kernel
theorem dX0_minusMinutes_7 : decode cX0_minusMinutes 7 = .ok (.i2l, 1) := by decide +kernel
theorem dX0_minusMinutes_8 : decode cX0_minusMinutes 8 = .ok (.lneg, 1) := by decide +kernel
theorem dX0_minusMinutes_9 : decode cX0_minusMinutes 9 = .ok (.iconst 4, 1) := by decide +kernel
theorem dX0_minusMinutes_10 : decode cX0_minusMinutes 10 = .ok (.invokevirtual 112, 3) := by decide +kernel
theorem dX0_minusMinutes_13 : decode cX0_minusMinutes 13 = .ok (.ireturn, 1) := by decide +kernel
theorem dX0_minusSeconds_0 : decode cX0_minusSeconds 0 = .ok (.iload_n 1, 1) := by decide +kernel
theorem dX0_minusSeconds_1 : decode cX0_minusSeconds 1 = .ok (.invokestatic 48, 3) := by decide +kernel
theorem dX0_minusSeconds_4 : decode cX0_minusSeconds 4 = .ok (.aload_n 0, 1) := by decide +kernel
theorem dX0_minusSeconds_5 : decode cX0_minusSeconds 5 = .ok (.iload_n 1, 1) := by decide +kernel
theorem dX0_minusSeconds_6 : decode cX0_minusSeconds 6 = .ok (.iload_n 2, 1) := by decide +kernel
theorem dX0_minusSeconds_7 : decode cX0_minusSeconds 7 = .ok (.i2l, 1) := by decide +kernel
theorem dX0_minusSeconds_8 : decode cX0_minusSeconds 8 = .ok (.lneg, 1) := by decide +kernel
theorem dX0_minusSeconds_9 : decode cX0_minusSeconds 9 = .ok (.iconst 3, 1) := by decide +kernel
theorem dX0_minusSeconds_10 : decode cX0_minusSeconds 10 = .ok (.invokevirtual 112, 3) := by decide +kernel
theorem dX0_minusSeconds_13 : decode cX0_minusSeconds 13 = .ok (.ireturn, 1) := by decide +kernel
theorem dX0_plusNanos_0 : decode cX0_plusNanos 0 = .ok (.iload_n 1, 1) := by decide +kernel
theorem dX0_plusNanos_1 : decode cX0_plusNanos 1 = .ok (.invokestatic 48, 3) := by decide +kernel
theorem dX0_plusNanos_4 : decode cX0_plusNanos 4 = .ok (.aload_n 0, 1) := by decide +kernel
theorem dX0_plusNanos_5 : decode cX0_plusNanos 5 = .ok (.iload_n 1, 1) := by decide +kernel
theorem dX0_plusNanos_6 : decode cX0_plusNanos 6 = .ok (.lconst 0, 1) := by decide +kernel
theorem dX0_plusNanos_7 : decode cX0_plusNanos 7 = .ok (.iload_n 2, 1) := by decide +kernel
theorem dX0_plusNanos_8 : decode cX0_plusNanos 8 = .ok (.i2l, 1) := by decide +kernel
theorem dX0_plusNanos_9 : decode cX0_plusNanos 9 = .ok (.ldc2_w 95, 3) := by decide +kernel
theorem dX0_plusNanos_12 : decode cX0_plusNanos 12 = .ok (.lmul, 1) := by decide +kernel
theorem dX0_plusNanos_13 : decode cX0_plusNanos 13 = .ok (.iload_n 3, 1) := by decide +kernel
theorem dX0_plusNanos_14 : decode cX0_plusNanos 14 = .ok (.i2l, 1) := by decide +kernel
theorem dX0_plusNanos_15 : decode cX0_plusNanos 15 = .ok (.ladd, 1) := by decide +kernel
theorem dX0_plusNanos_16 : decode cX0_plusNanos 16 = .ok (.invokevirtual 118, 3) := by decide +kernel
theorem dX0_plusNanos_19 : decode cX0_plusNanos 19 = .ok (.ireturn, 1) := by decide +kernel
theorem dX0_minusNanos_0 : decode cX0_minusNanos 0 = .ok (.iload_n 1, 1) := by decide +kernel
theorem dX0_minusNanos_1 : decode cX0_minusNanos 1 = .ok (.invokestatic 48, 3) := by decide +kernel
theorem dX0_minusNanos_4 : decode cX0_minusNanos 4 = .ok (.aload_n 0, 1) := by decide +kernel
theorem dX0_minusNanos_5 : decode cX0_minusNanos 5 = .ok (.iload_n 1, 1) := by decide +kernel
theorem dX0_minusNanos_6 : decode cX0_minusNanos 6 = .ok (.lconst 0, 1) := by decide +kernel
theorem dX0_minusNanos_7 : decode cX0_minusNanos 7 = .ok (.iload_n 2, 1) := by decide +kernel
theorem dX0_minusNanos_8 : decode cX0_minusNanos 8 = .ok (.i2l, 1) := by decide +kernel
theorem dX0_minusNanos_9 : decode cX0_minusNanos 9 = .ok (.ldc2_w 95, 3) := by decide +kernel
theorem dX0_minusNanos_12 : decode cX0_minusNanos 12 = .ok (.lmul, 1) := by decide +kernel
theorem dX0_minusNanos_13 : decode cX0_minusNanos 13 = .ok (.iload_n 3, 1) := by decide +kernel
theorem dX0_minusNanos_14 : decode cX0_minusNanos 14 = .ok (.i2l, 1) := by decide +kernel
theorem dX0_minusNanos_15 : decode cX0_minusNanos 15 = .ok (.ladd, 1) := by decide +kernel
theorem dX0_minusNanos_16 : decode cX0_minusNanos 16 = .ok (.lneg, 1) := by decide +kernel
theorem dX0_minusNanos_17 : decode cX0_minusNanos 17 = .ok (.invokevirtual 118, 3) := by decide +kernel
theorem dX0_minusNanos_20 : decode cX0_minusNanos 20 = .ok (.ireturn, 1) := by decide +kernel
theorem dX0_plusUnits_0 : decode cX0_plusUnits 0 = .ok (.iload_n 1, 1) := by decide +kernel
theorem dX0_plusUnits_1 : decode cX0_plusUnits 1 = .ok (.invokestatic 48, 3) := by decide +kernel
theorem dX0_plusUnits_4 : decode cX0_plusUnits 4 = .ok (.iload_n 2, 1) := by decide +kernel
theorem dX0_plusUnits_5 : decode cX0_plusUnits 5 = .ok (.ldc 121, 2) := by decide +kernel
theorem dX0_plusUnits_7 : decode cX0_plusUnits 7 = .ok (.ldc 122, 2) := by decide +kernel
theorem dX0_plusUnits_9 : decode cX0_plusUnits 9 = .ok (.invokestatic 30, 3) := by decide +kernel
theorem dX0_plusUnits_12 : decode cX0_plusUnits 12 = .ok (.iload_n 3, 1) := by decide +kernel
theorem dX0_plusUnits_13 : decode cX0_plusUnits 13 = .ok (.iconst 0, 1) := by decide +kernel
theorem dX0_plusUnits_14 : decode cX0_plusUnits 14 = .ok (.bipush 13, 2) := by decide +kernel
theorem dX0_plusUnits_16 : decode cX0_plusUnits 16 = .ok (.invokestatic 30, 3) := by decide +kernel
theorem dX0_plusUnits_19 : decode cX0_plusUnits 19 = .ok (.iload_n 3, 1) := by decide +kernel
theorem dX0_plusUnits_20 : decode cX0_plusUnits 20 = .ok (.bipush 9, 2) := by decide +kernel
theorem dX0_plusUnits_22 : decode cX0_plusUnits 22 = .ok (.if_icmp .ge 12, 3) := by decide +kernel
theorem dX0_plusUnits_25 : decode cX0_plusUnits 25 = .ok (.aload_n 0, 1) := by decide +kernel
theorem dX0_plusUnits_26 : decode cX0_plusUnits 26 = .ok (.iload_n 1, 1) := by decide +kernel
theorem dX0_plusUnits_27 : decode cX0_plusUnits 27 = .ok (.iload_n 2, 1) := by decide +kernel
theorem dX0_plusUnits_28 : decode cX0_plusUnits 28 = .ok (.i2l, 1) := by decide +kernel
theorem dX0_plusUnits_29 : decode cX0_plusUnits 29 = .ok (.iload_n 3, 1) := by decide +kernel
theorem dX0_plusUnits_30 : decode cX0_plusUnits 30 = .ok (.invokevirtual 112, 3) := by decide +kernel
theorem dX0_plusUnits_33 : decode cX0_plusUnits 33 = .ok (.ireturn, 1) := by decide +kernel
theorem dX0_plusUnits_34 : decode cX0_plusUnits 34 = .ok (.aload_n 0, 1) := by decide +kernel
theorem dX0_plusUnits_35 : decode cX0_plusUnits 35 = .ok (.iload_n 1, 1) := by decide +kernel
theorem dX0_plusUnits_36 : decode cX0_plusUnits 36 = .ok (.iload_n 2, 1) := by decide +kernel
theorem dX0_plusUnits_37 : decode cX0_plusUnits 37 = .ok (.i2l, 1) := by decide +kernel
theorem dX0_plusUnits_38 : decode cX0_plusUnits 38 = .ok (.iload_n 3, 1) := by decide +kernel
theorem dX0_plusUnits_39 : decode cX0_plusUnits 39 = .ok (.invokestatic 123, 3) := by decide +kernel
theorem dX0_plusUnits_42 : decode cX0_plusUnits 42 = .ok (.lmul, 1) := by decide +kernel
theorem dX0_plusUnits_43 : decode cX0_plusUnits 43 = .ok (.invokevirtual 108, 3) := by decide +kernel
theorem dX0_plusUnits_46 : decode cX0_plusUnits 46 = .ok (.ireturn, 1) := by decide +kernel
theorem dX0_year_0 : decode cX0_year 0 = .ok (.iload_n 1, 1) := by decide +kernel
theorem dX0_year_1 : decode cX0_year 1 = .ok (.invokestatic 48, 3) := by decide +kernel
theorem dX0_year_4 : decode cX0_year 4 = .ok (.aload_n 0, 1) := by decide +kernel
theorem dX0_year_5 : decode cX0_year 5 = .ok (.getfield 9, 3) := by decide +kernel
theorem dX0_year_8 : decode cX0_year 8 = .ok (.iload_n 1, 1) := by decide +kernel
theorem dX0_year_9 : decode cX0_year 9 = .ok (.iaload, 1) := by decide +kernel
theorem dX0_year_10 : decode cX0_year 10 = .ok (.ireturn, 1) := by decide +kernel
theorem dX0_month_0 : decode cX0_month 0 = .ok (.iload_n 1, 1) := by decide +kernel
theorem dX0_month_1 : decode cX0_month 1 = .ok (.invokestatic 48, 3) := by decide +kernel
theorem dX0_month_4 : decode cX0_month 4 = .ok (.aload_n 0, 1) := by decide +kernel
theorem dX0_month_5 : decode cX0_month 5 = .ok (.getfield 13, 3) := by decide +kernel
theorem dX0_month_8 : decode cX0_month 8 = .ok (.iload_n 1, 1) := by decide +kernel
theorem dX0_month_9 : decode cX0_month 9 = .ok (.iaload, 1) := by decide +kernel
theorem dX0_month_10 : decode cX0_month 10 = .ok (.ireturn, 1) := by decide +kernel
theorem dX0_dayOfMonth_0 : decode cX0_dayOfMonth 0 = .ok (.iload_n 1, 1) := by decide +kernel
theorem dX0_dayOfMonth_1 : decode cX0_dayOfMonth 1 = .ok (.invokestatic 48, 3) := by decide +kernel
theorem dX0_dayOfMonth_4 : decode cX0_dayOfMonth 4 = .ok (.aload_n 0, 1) := by decide +kernel
theorem dX0_dayOfMonth_5 : decode cX0_dayOfMonth 5 = .ok (.getfield 16, 3) := by decide +kernel
theorem dX0_dayOfMonth_8 : decode cX0_dayOfMonth 8 = .ok (.iload_n 1, 1) := by decide +kernel
theorem dX0_dayOfMonth_9 : decode cX0_dayOfMonth 9 = .ok (.iaload, 1) := by decide +kernel
theorem dX0_dayOfMonth_10 : decode cX0_dayOfMonth 10 = .ok (.ireturn, 1) := by decide +kernel
theorem dX0_dayOfYear_0 : decode cX0_dayOfYear 0 = .ok (.iload_n 1, 1) := by decide +kernel
theorem dX0_dayOfYear_1 : decode cX0_dayOfYear 1 = .ok (.invokestatic 48, 3) := by decide +kernel
theorem dX0_dayOfYear_4 : decode cX0_dayOfYear 4 = .ok (.aload_n 0, 1) := by decide +kernel
theorem dX0_dayOfYear_5 : decode cX0_dayOfYear 5 = .ok (.iload_n 1, 1) := by decide +kernel
theorem dX0_dayOfYear_6 : decode cX0_dayOfYear 6 = .ok (.invokevirtual 126, 3) := by decide +kernel
theorem dX0_dayOfYear_9 : decode cX0_dayOfYear 9 = .ok (.ireturn, 1) := by decide +kernel
theorem dX0_dayOfWeek_0 : decode cX0_dayOfWeek 0 = .ok (.iload_n 1, 1) := by decide +kernel
theorem dX0_dayOfWeek_1 : decode cX0_dayOfWeek 1 = .ok (.invokestatic 48, 3) := by decide +kernel
theorem dX0_dayOfWeek_4 : decode cX0_dayOfWeek 4 = .ok (.aload_n 0, 1) := by decide +kernel
theorem dX0_dayOfWeek_5 : decode cX0_dayOfWeek 5 = .ok (.getfield 19, 3) := by decide +kernel
theorem dX0_dayOfWeek_8 : decode cX0_dayOfWeek 8 = .ok (.iload_n 1, 1) := by decide +kernel
theorem dX0_dayOfWeek_9 : decode cX0_dayOfWeek 9 = .ok (.laload, 1) := by decide +kernel
theorem dX0_dayOfWeek_10 : decode cX0_dayOfWeek 10 = .ok (.invokestatic 129, 3) := by decide +kernel
theorem dX0_dayOfWeek_13 : decode cX0_dayOfWeek 13 = .ok (.ireturn, 1) := by decide +kernel
theorem dX0_hour_0 : decode cX0_hour 0 = .ok (.iload_n 1, 1) := by decide +kernel
theorem dX0_hour_1 : decode cX0_hour 1 = .ok (.invokestatic 48, 3) := by decide +kernel
theorem dX0_hour_4 : decode cX0_hour 4 = .ok (.aload_n 0, 1) := by decide +kernel
theorem dX0_hour_5 : decode cX0_hour 5 = .ok (.getfield 23, 3) := by decide +kernel
theorem dX0_hour_8 : decode cX0_hour 8 = .ok (.iload_n 1, 1) := by decide +kernel
theorem dX0_hour_9 : decode cX0_hour 9 = .ok (.laload, 1) := by decide +kernel
theorem dX0_hour_10 : decode cX0_hour 10 = .ok (.invokestatic 81, 3) := by decide +kernel
theorem dX0_hour_13 : decode cX0_hour 13 = .ok (.ireturn, 1) := by decide +kernel
theorem dX0_minute_0 : decode cX0_minute 0 = .ok (.iload_n 1, 1) := by decide +kernel
theorem dX0_minute_1 : decode cX0_minute 1 = .ok (.invokestatic 48, 3) := by decide +kernel
theorem dX0_minute_4 : decode cX0_minute 4 = .ok (.aload_n 0, 1) := by decide +kernel
theorem dX0_minute_5 : decode cX0_minute 5 = .ok (.getfield 23, 3) := by decide +kernel
theorem dX0_minute_8 : decode cX0_minute 8 = .ok (.iload_n 1, 1) := by decide +kernel
theorem dX0_minute_9 : decode cX0_minute 9 = .ok (.laload, 1) := by decide +kernel
theorem dX0_minute_10 : decode cX0_minute 10 = .ok (.invokestatic 87, 3) := by decide +kernel
theorem dX0_minute_13 : decode cX0_minute 13 = .ok (.ireturn, 1) := by decide +kernel
theorem dX0_second_0 : decode cX0_second 0 = .ok (.iload_n 1, 1) := by decide +kernel
theorem dX0_second_1 : decode cX0_second 1 = .ok (.invokestatic 48, 3) := by decide +kernel
theorem dX0_second_4 : decode cX0_second 4 = .ok (.aload_n 0, 1) := by decide +kernel
theorem dX0_second_5 : decode cX0_second 5 = .ok (.getfield 23, 3) := by decide +kernel
theorem dX0_second_8 : decode cX0_second 8 = .ok (.iload_n 1, 1) := by decide +kernel
theorem dX0_second_9 : decode cX0_second 9 = .ok (.laload, 1) := by decide +kernel
theorem dX0_second_10 : decode cX0_second 10 = .ok (.invokestatic 92, 3) := by decide +kernel
theorem dX0_second_13 : decode cX0_second 13 = .ok (.ireturn, 1) := by decide +kernel
theorem dX0_nano_0 : decode cX0_nano 0 = .ok (.iload_n 1, 1) := by decide +kernel
theorem dX0_nano_1 : decode cX0_nano 1 = .ok (.invokestatic 48, 3) := by decide +kernel
theorem dX0_nano_4 : decode cX0_nano 4 = .ok (.aload_n 0, 1) := by decide +kernel
theorem dX0_nano_5 : decode cX0_nano 5 = .ok (.getfield 23, 3) := by decide +kernel
theorem dX0_nano_8 : decode cX0_nano 8 = .ok (.iload_n 1, 1) := by decide +kernel
theorem dX0_nano_9 : decode cX0_nano 9 = .ok (.laload, 1) := by decide +kernel
theorem dX0_nano_10 : decode cX0_nano 10 = .ok (.invokestatic 97, 3) := by decide +kernel
theorem dX0_nano_13 : decode cX0_nano 13 = .ok (.ireturn, 1) := by decide +kernel
theorem dX0_day_0 : decode cX0_day 0 = .ok (.iload_n 1, 1) := by decide +kernel
theorem dX0_day_1 : decode cX0_day 1 = .ok (.invokestatic 48, 3) := by decide +kernel
theorem dX0_day_4 : decode cX0_day 4 = .ok (.aload_n 0, 1) := by decide +kernel
theorem dX0_day_5 : decode cX0_day 5 = .ok (.getfield 19, 3) := by decide +kernel
theorem dX0_day_8 : decode cX0_day 8 = .ok (.iload_n 1, 1) := by decide +kernel
theorem dX0_day_9 : decode cX0_day 9 = .ok (.laload, 1) := by decide +kernel
theorem dX0_day_10 : decode cX0_day 10 = .ok (.l2i, 1) := by decide +kernel
theorem dX0_day_11 : decode cX0_day 11 = .ok (.ireturn, 1) := by decide +kernel
theorem dX0_secondOfDay_0 : decode cX0_secondOfDay 0 = .ok (.iload_n 1, 1) := by decide +kernel
theorem dX0_secondOfDay_1 : decode cX0_secondOfDay 1 = .ok (.invokestatic 48, 3) := by decide +kernel
theorem dX0_secondOfDay_4 : decode cX0_secondOfDay 4 = .ok (.aload_n 0, 1) := by decide +kernel
theorem dX0_secondOfDay_5 : decode cX0_secondOfDay 5 = .ok (.getfield 23, 3) := by decide +kernel
theorem dX0_secondOfDay_8 : decode cX0_secondOfDay 8 = .ok (.iload_n 1, 1) := by decide +kernel
theorem dX0_secondOfDay_9 : decode cX0_secondOfDay 9 = .ok (.laload, 1) := by decide +kernel
theorem dX0_secondOfDay_10 : decode cX0_secondOfDay 10 = .ok (.ldc2_w 95, 3) := by decide +kernel
theorem dX0_secondOfDay_13 : decode cX0_secondOfDay 13 = .ok (.ldiv, 1) := by decide +kernel
theorem dX0_secondOfDay_14 : decode cX0_secondOfDay 14 = .ok (.l2i, 1) := by decide +kernel
theorem dX0_secondOfDay_15 : decode cX0_secondOfDay 15 = .ok (.ireturn, 1) := by decide +kernel
theorem dX0_lengthOfMonth_0 : decode cX0_lengthOfMonth 0 = .ok (.iload_n 1, 1) := by decide +kernel
theorem dX0_lengthOfMonth_1 : decode cX0_lengthOfMonth 1 = .ok (.invokestatic 48, 3) := by decide +kernel
theorem dX0_lengthOfMonth_4 : decode cX0_lengthOfMonth 4 = .ok (.aload_n 0, 1) := by decide +kernel
theorem dX0_lengthOfMonth_5 : decode cX0_lengthOfMonth 5 = .ok (.getfield 9, 3) := by decide +kernel
theorem dX0_lengthOfMonth_8 : decode cX0_lengthOfMonth 8 = .ok (.iload_n 1, 1) := by decide +kernel
theorem dX0_lengthOfMonth_9 : decode cX0_lengthOfMonth 9 = .ok (.iaload, 1) := by decide +kernel
theorem dX0_lengthOfMonth_10 : decode cX0_lengthOfMonth 10 = .ok (.aload_n 0, 1) := by decide +kernel
theorem dX0_lengthOfMonth_11 : decode cX0_lengthOfMonth 11 = .ok (.getfield 13, 3) := by decide +kernel
theorem dX0_lengthOfMonth_14 : decode cX0_lengthOfMonth 14 = .ok (.iload_n 1, 1) := by decide +kernel
theorem dX0_lengthOfMonth_15 : decode cX0_lengthOfMonth 15 = .ok (.iaload, 1) := by decide +kernel
theorem dX0_lengthOfMonth_16 : decode cX0_lengthOfMonth 16 = .ok (.invokestatic 132, 3) := by decide +kernel
theorem dX0_lengthOfMonth_19 : decode cX0_lengthOfMonth 19 = .ok (.ireturn, 1) := by decide +kernel
theorem dX0_nanoOfDay_0 : decode cX0_nanoOfDay 0 = .ok (.iload_n 1, 1) := by decide +kernel
theorem dX0_nanoOfDay_1 : decode cX0_nanoOfDay 1 = .ok (.invokestatic 48, 3) := by decide +kernel
theorem dX0_nanoOfDay_4 : decode cX0_nanoOfDay 4 = .ok (.aload_n 0, 1) := by decide +kernel
theorem dX0_nanoOfDay_5 : decode cX0_nanoOfDay 5 = .ok (.getfield 23, 3) := by decide +kernel
theorem dX0_nanoOfDay_8 : decode cX0_nanoOfDay 8 = .ok (.iload_n 1, 1) := by decide +kernel
theorem dX0_nanoOfDay_9 : decode cX0_nanoOfDay 9 = .ok (.laload, 1) := by decide +kernel
theorem dX0_nanoOfDay_10 : decode cX0_nanoOfDay 10 = .ok (.invokestatic 136, 3) := by decide +kernel
theorem dX0_nanoOfDay_13 : decode cX0_nanoOfDay 13 = .ok (.areturn, 1) := by decide +kernel
theorem dX0_isLeap_0 : decode cX0_isLeap 0 = .ok (.iload_n 1, 1) := by decide +kernel
theorem dX0_isLeap_1 : decode cX0_isLeap 1 = .ok (.invokestatic 48, 3) := by decide +kernel
theorem dX0_isLeap_4 : decode cX0_isLeap 4 = .ok (.aload_n 0, 1) := by decide +kernel
theorem dX0_isLeap_5 : decode cX0_isLeap 5 = .ok (.getfield 9, 3) := by decide +kernel
theorem dX0_isLeap_8 : decode cX0_isLeap 8 = .ok (.iload_n 1, 1) := by decide +kernel
theorem dX0_isLeap_9 : decode cX0_isLeap 9 = .ok (.iaload, 1) := by decide +kernel
theorem dX0_isLeap_10 : decode cX0_isLeap 10 = .ok (.invokestatic 140, 3) := by decide +kernel
theorem dX0_isLeap_13 : decode cX0_isLeap 13 = .ok (.ireturn, 1) := by decide +kernel
theorem dX0_field_0 : decode cX0_field 0 = .ok (.iload_n 1, 1) := by decide +kernel
theorem dX0_field_1 : decode cX0_field 1 = .ok (.invokestatic 48, 3) := by decide +kernel
theorem dX0_field_4 : decode cX0_field 4 = .ok (.iload_n 2, 1) := by decide +kernel
theorem dX0_field_5 : decode cX0_field 5 = .ok (.iconst 0, 1) := by decide +kernel
theorem dX0_field_6 : decode cX0_field 6 = .ok (.bipush 27, 2) := by decide +kernel
theorem dX0_field_8 : decode cX0_field 8 = .ok (.invokestatic 30, 3) := by decide +kernel
theorem dX0_field_11 : decode cX0_field 11 = .ok (.iload_n 2, 1) := by decide +kernel
theorem dX0_field_12 : decode cX0_field 12 = .ok (.bipush 14, 2) := by decide +kernel
theorem dX0_field_14 : decode cX0_field 14 = .ok (.if_icmp .gt 17, 3) := by decide +kernel
theorem dX0_field_17 : decode cX0_field 17 = .ok (.aload_n 0, 1) := by decide +kernel
theorem dX0_field_18 : decode cX0_field 18 = .ok (.getfield 23, 3) := by decide +kernel
theorem dX0_field_21 : decode cX0_field 21 = .ok (.iload_n 1, 1) := by decide +kernel
theorem dX0_field_22 : decode cX0_field 22 = .ok (.laload, 1) := by decide +kernel
theorem dX0_field_23 : decode cX0_field 23 = .ok (.iload_n 2, 1) := by decide +kernel
theorem dX0_field_24 : decode cX0_field 24 = .ok (.invokestatic 144, 3) := by decide +kernel
theorem dX0_field_27 : decode cX0_field 27 = .ok (.invokestatic 136, 3) := by decide +kernel
theorem dX0_field_30 : decode cX0_field 30 = .ok (.areturn, 1) := by decide +kernel
theorem dX0_field_31 : decode cX0_field 31 = .ok (.aload_n 0, 1) := by decide +kernel
theorem dX0_field_32 : decode cX0_field 32 = .ok (.iload_n 1, 1) := by decide +kernel
theorem dX0_field_33 : decode cX0_field 33 = .ok (.iload_n 2, 1) := by decide +kernel
theorem dX0_field_34 : decode cX0_field 34 = .ok (.invokevirtual 147, 3) := by decide +kernel
theorem dX0_field_37 : decode cX0_field 37 = .ok (.invokestatic 136, 3) := by decide +kernel
theorem dX0_field_40 : decode cX0_field 40 = .ok (.areturn, 1) := by decide +kernel
theorem dX0_compare_0 : decode cX0_compare 0 = .ok (.iload_n 1, 1) := by decide +kernel
theorem dX0_compare_1 : decode cX0_compare 1 = .ok (.invokestatic 48, 3) := by decide +kernel
theorem dX0_compare_4 : decode cX0_compare 4 = .ok (.iload_n 2, 1) := by decide +kernel
theorem dX0_compare_5 : decode cX0_compare 5 = .ok (.invokestatic 48, 3) := by decide +kernel
theorem dX0_compare_8 : decode cX0_compare 8 = .ok (.aload_n 0, 1) := by decide +kernel
theorem dX0_compare_9 : decode cX0_compare 9 = .ok (.iload_n 1, 1) := by decide +kernel
theorem dX0_compare_10 : decode cX0_compare 10 = .ok (.iload_n 2, 1) := by decide +kernel
theorem dX0_compare_11 : decode cX0_compare 11 = .ok (.invokevirtual 151, 3) := by decide +kernel
theorem dX0_compare_14 : decode cX0_compare 14 = .ok (.ireturn, 1) := by decide +kernel
theorem dX0_isSame_0 : decode cX0_isSame 0 = .ok (.iload_n 1, 1) := by decide +kernel
theorem dX0_isSame_1 : decode cX0_isSame 1 = .ok (.invokestatic 48, 3) := by decide +kernel
theorem dX0_isSame_4 : decode cX0_isSame 4 = .ok (.iload_n 2, 1) := by decide +kernel
theorem dX0_isSame_5 : decode cX0_isSame 5 = .ok (.invokestatic 48, 3) := by decide +kernel
theorem dX0_isSame_8 : decode cX0_isSame 8 = .ok (.aload_n 0, 1) := by decide +kernel
theorem dX0_isSame_9 : decode cX0_isSame 9 = .ok (.iload_n 1, 1) := by decide +kernel
theorem dX0_isSame_10 : decode cX0_isSame 10 = .ok (.iload_n 2, 1) := by decide +kernel
theorem dX0_isSame_11 : decode cX0_isSame 11 = .ok (.invokevirtual 154, 3) := by decide +kernel
theorem dX0_isSame_14 : decode cX0_isSame 14 = .ok (.ireturn, 1) := by decide +kernel
theorem dX0_isSameAs_0 : decode cX0_isSameAs 0 = .ok (.iload_n 1, 1) := by decide +kernel
theorem dX0_isSameAs_1 : decode cX0_isSameAs 1 = .ok (.invokestatic 48, 3) := by decide +kernel
theorem dX0_isSameAs_4 : decode cX0_isSameAs 4 = .ok (.iload_n 2, 1) := by decide +kernel
theorem dX0_isSameAs_5 : decode cX0_isSameAs 5 = .ok (.iconst 0, 1) := by decide +kernel
theorem dX0_isSameAs_6 : decode cX0_isSameAs 6 = .ok (.iconst 4, 1) := by decide +kernel
theorem dX0_isSameAs_7 : decode cX0_isSameAs 7 = .ok (.invokestatic 30, 3) := by decide +kernel
theorem dX0_isSameAs_10 : decode cX0_isSameAs 10 = .ok (.iload_n 2, 1) := by decide +kernel
theorem dX0_isSameAs_11 : decode cX0_isSameAs 11 = .ok (.lookupswitch 37 #[(3, 25), (4, 31)], 25) := by decide +kernel
theorem dX0_isSameAs_36 : decode cX0_isSameAs 36 = .ok (.aload_n 0, 1) := by decide +kernel
theorem dX0_isSameAs_37 : decode cX0_isSameAs 37 = .ok (.iload_n 1, 1) := by decide +kernel
theorem dX0_isSameAs_38 : decode cX0_isSameAs 38 = .ok (.invokevirtual 158, 3) := by decide +kernel
theorem dX0_isSameAs_41 : decode cX0_isSameAs 41 = .ok (.ireturn, 1) := by decide +kernel
theorem dX0_isSameAs_42 : decode cX0_isSameAs 42 = .ok (.aload_n 0, 1) := by decide +kernel
theorem dX0_isSameAs_43 : decode cX0_isSameAs 43 = .ok (.iload_n 1, 1) := by decide +kernel
theorem dX0_isSameAs_44 : decode cX0_isSameAs 44 = .ok (.invokevirtual 161, 3) := by decide +kernel
theorem dX0_isSameAs_47 : decode cX0_isSameAs 47 = .ok (.ireturn, 1) := by decide +kernel
theorem dX0_isSameAs_48 : decode cX0_isSameAs 48 = .ok (.iconst 0, 1) := by decide +kernel
theorem dX0_isSameAs_49 : decode cX0_isSameAs 49 = .ok (.ireturn, 1) := by decide +kernel
theorem dX0_between_0 : decode cX0_between 0 = .ok (.iload_n 1, 1) := by decide +kernel
theorem dX0_between_1 : decode cX0_between 1 = .ok (.invokestatic 48, 3) := by decide +kernel
theorem dX0_between_4 : decode cX0_between 4 = .ok (.iload_n 2, 1) := by decide +kernel
theorem dX0_between_5 : decode cX0_between 5 = .ok (.invokestatic 48, 3) := by decide +kernel
theorem dX0_between_8 : decode cX0_between 8 = .ok (.iload_n 3, 1) := by decide +kernel
theorem dX0_between_9 : decode cX0_between 9 = .ok (.iconst 0, 1) := by decide +kernel
theorem dX0_between_10 : decode cX0_between 10 = .ok (.bipush 13, 2) := by decide +kernel
theorem dX0_between_12 : decode cX0_between 12 = .ok (.invokestatic 30, 3) := by decide +kernel
theorem dX0_between_15 : decode cX0_between 15 = .ok (.aload_n 0, 1) := by decide +kernel
theorem dX0_between_16 : decode cX0_between 16 = .ok (.iload_n 1, 1) := by decide +kernel
theorem dX0_between_17 : decode cX0_between 17 = .ok (.iload_n 2, 1) := by decide +kernel
theorem dX0_between_18 : decode cX0_between 18 = .ok (.iload_n 3, 1) := by decide +kernel
theorem dX0_between_19 : decode cX0_between 19 = .ok (.invokevirtual 164, 3) := by decide +kernel
theorem dX0_between_22 : decode cX0_between 22 = .ok (.areturn, 1) := by decide +kernel
theorem dX0_until_0 : decode cX0_until 0 = .ok (.iload_n 1, 1) := by decide +kernel
theorem dX0_until_1 : decode cX0_until 1 = .ok (.invokestatic 48, 3) := by decide +kernel
theorem dX0_until_4 : decode cX0_until 4 = .ok (.iload_n 2, 1) := by decide +kernel
theorem dX0_until_5 : decode cX0_until 5 = .ok (.invokestatic 48, 3) := by decide +kernel
theorem dX0_until_8 : decode cX0_until 8 = .ok (.iload_n 3, 1) := by decide +kernel
theorem dX0_until_9 : decode cX0_until 9 = .ok (.iconst 0, 1) := by decide +kernel
theorem dX0_until_10 : decode cX0_until 10 = .ok (.bipush 13, 2) := by decide +kernel
theorem dX0_until_12 : decode cX0_until 12 = .ok (.invokestatic 30, 3) := by decide +kernel
theorem dX0_until_15 : decode cX0_until 15 = .ok (.aload_n 0, 1) := by decide +kernel
theorem dX0_until_16 : decode cX0_until 16 = .ok (.iload_n 1, 1) := by decide +kernel
theorem dX0_until_17 : decode cX0_until 17 = .ok (.iload_n 2, 1) := by decide +kernel
theorem dX0_until_18 : decode cX0_until 18 = .ok (.iload_n 3, 1) := by decide +kernel
theorem dX0_until_19 : decode cX0_until 19 = .ok (.invokevirtual 164, 3) := by decide +kernel
theorem dX0_until_22 : decode cX0_until 22 = .ok (.areturn, 1) := by decide +kernel
theorem dX0_house_0 : decode cX0_house 0 = .ok (.iload_n 1, 1) := by decide +kernel
theorem dX0_house_1 : decode cX0_house 1 = .ok (.iconst 0, 1) := by decide +kernel
theorem dX0_house_2 : decode cX0_house 2 = .ok (.iconst 5, 1) := by decide +kernel
theorem dX0_house_3 : decode cX0_house 3 = .ok (.invokestatic 30, 3) := by decide +kernel
theorem dX0_house_6 : decode cX0_house 6 = .ok (.aload_n 0, 1) := by decide +kernel
theorem dX0_house_7 : decode cX0_house 7 = .ok (.iload_n 1, 1) := by decide +kernel
theorem dX0_house_8 : decode cX0_house 8 = .ok (.invokevirtual 168, 3) := by decide +kernel
theorem dX0_house_11 : decode cX0_house 11 = .ok (.ireturn, 1) := by decide +kernel
theorem dX0_knock_0 : decode cX0_knock 0 = .ok (.aload_n 0, 1) := by decide +kernel
theorem dX0_knock_1 : decode cX0_knock 1 = .ok (.dup, 1) := by decide +kernel
theorem dX0_knock_2 : decode cX0_knock 2 = .ok (.getfield 171, 3) := by decide +kernel
theorem dX0_knock_5 : decode cX0_knock 5 = .ok (.iconst 1, 1) := by decide +kernel
theorem dX0_knock_6 : decode cX0_knock 6 = .ok (.iadd, 1) := by decide +kernel
theorem dX0_knock_7 : decode cX0_knock 7 = .ok (.putfield 171, 3) := by decide +kernel
theorem dX0_knock_10 : decode cX0_knock 10 = .ok (.aload_n 0, 1) := by decide +kernel
theorem dX0_knock_11 : decode cX0_knock 11 = .ok (.getfield 171, 3) := by decide +kernel
theorem dX0_knock_14 : decode cX0_knock 14 = .ok (.ireturn, 1) := by decide +kernel
theorem dX0_isSound_0 : decode cX0_isSound 0 = .ok (.iconst 0, 1) := by decide +kernel
theorem dX0_isSound_1 : decode cX0_isSound 1 = .ok (.istore_n 1, 1) := by decide +kernel
theorem dX0_isSound_2 : decode cX0_isSound 2 = .ok (.iload_n 1, 1) := by decide +kernel
theorem dX0_isSound_3 : decode cX0_isSound 3 = .ok (.bipush 6, 2) := by decide +kernel
theorem dX0_isSound_5 : decode cX0_isSound 5 = .ok (.if_icmp .ge 43, 3) := by decide +kernel
theorem dX0_isSound_8 : decode cX0_isSound 8 = .ok (.aload_n 0, 1) := by decide +kernel
theorem dX0_isSound_9 : decode cX0_isSound 9 = .ok (.iload_n 1, 1) := by decide +kernel
theorem dX0_isSound_10 : decode cX0_isSound 10 = .ok (.invokevirtual 174, 3) := by decide +kernel
theorem dX0_isSound_13 : decode cX0_isSound 13 = .ok (.ifCond .ne 5, 3) := by decide +kernel
theorem dX0_isSound_16 : decode cX0_isSound 16 = .ok (.iconst 0, 1) := by decide +kernel
theorem dX0_isSound_17 : decode cX0_isSound 17 = .ok (.ireturn, 1) := by decide +kernel
theorem dX0_isSound_18 : decode cX0_isSound 18 = .ok (.iconst 0, 1) := by decide +kernel
theorem dX0_isSound_19 : decode cX0_isSound 19 = .ok (.istore_n 2, 1) := by decide +kernel
theorem dX0_isSound_20 : decode cX0_isSound 20 = .ok (.iload_n 2, 1) := by decide +kernel
theorem dX0_isSound_21 : decode cX0_isSound 21 = .ok (.iload_n 1, 1) := by decide +kernel
theorem dX0_isSound_22 : decode cX0_isSound 22 = .ok (.if_icmp .ge 20, 3) := by decide +kernel
theorem dX0_isSound_25 : decode cX0_isSound 25 = .ok (.aload_n 0, 1) := by decide +kernel
theorem dX0_isSound_26 : decode cX0_isSound 26 = .ok (.iload_n 1, 1) := by decide +kernel
theorem dX0_isSound_27 : decode cX0_isSound 27 = .ok (.iload_n 2, 1) := by decide +kernel
theorem dX0_isSound_28 : decode cX0_isSound 28 = .ok (.invokevirtual 177, 3) := by decide +kernel
theorem dX0_isSound_31 : decode cX0_isSound 31 = .ok (.ifCond .ne 5, 3) := by decide +kernel
theorem dX0_isSound_34 : decode cX0_isSound 34 = .ok (.iconst 0, 1) := by decide +kernel
theorem dX0_isSound_35 : decode cX0_isSound 35 = .ok (.ireturn, 1) := by decide +kernel
theorem dX0_isSound_36 : decode cX0_isSound 36 = .ok (.iinc 2 1, 3) := by decide +kernel
theorem dX0_isSound_39 : decode cX0_isSound 39 = .ok (.goto (-19), 3) := by decide +kernel
theorem dX0_isSound_42 : decode cX0_isSound 42 = .ok (.iinc 1 1, 3) := by decide +kernel
theorem dX0_isSound_45 : decode cX0_isSound 45 = .ok (.goto (-43), 3) := by decide +kernel
theorem dX0_isSound_48 : decode cX0_isSound 48 = .ok (.iconst 1, 1) := by decide +kernel
theorem dX0_isSound_49 : decode cX0_isSound 49 = .ok (.ireturn, 1) := by decide +kernel
theorem dX0_digest_0 : decode cX0_digest 0 = .ok (.ldc2_w 180, 3) := by decide +kernel
theorem dX0_digest_3 : decode cX0_digest 3 = .ok (.lstore_n 1, 1) := by decide +kernel
theorem dX0_digest_4 : decode cX0_digest 4 = .ok (.iconst 0, 1) := by decide +kernel
theorem dX0_digest_5 : decode cX0_digest 5 = .ok (.istore_n 3, 1) := by decide +kernel
theorem dX0_digest_6 : decode cX0_digest 6 = .ok (.iload_n 3, 1) := by decide +kernel
theorem dX0_digest_7 : decode cX0_digest 7 = .ok (.bipush 6, 2) := by decide +kernel
theorem dX0_digest_9 : decode cX0_digest 9 = .ok (.if_icmp .ge 16, 3) := by decide +kernel
theorem dX0_digest_12 : decode cX0_digest 12 = .ok (.aload_n 0, 1) := by decide +kernel
theorem dX0_digest_13 : decode cX0_digest 13 = .ok (.lload_n 1, 1) := by decide +kernel
theorem dX0_digest_14 : decode cX0_digest 14 = .ok (.iload_n 3, 1) := by decide +kernel
theorem dX0_digest_15 : decode cX0_digest 15 = .ok (.invokevirtual 182, 3) := by decide +kernel
theorem dX0_digest_18 : decode cX0_digest 18 = .ok (.lstore_n 1, 1) := by decide +kernel
theorem dX0_digest_19 : decode cX0_digest 19 = .ok (.iinc 3 1, 3) := by decide +kernel
theorem dX0_digest_22 : decode cX0_digest 22 = .ok (.goto (-16), 3) := by decide +kernel
theorem dX0_digest_25 : decode cX0_digest 25 = .ok (.iconst 0, 1) := by decide +kernel
theorem dX0_digest_26 : decode cX0_digest 26 = .ok (.istore_n 3, 1) := by decide +kernel
theorem dX0_digest_27 : decode cX0_digest 27 = .ok (.iload_n 3, 1) := by decide +kernel
theorem dX0_digest_28 : decode cX0_digest 28 = .ok (.bipush 6, 2) := by decide +kernel
theorem dX0_digest_30 : decode cX0_digest 30 = .ok (.if_icmp .ge 57, 3) := by decide +kernel
theorem dX0_digest_33 : decode cX0_digest 33 = .ok (.iload_n 3, 1) := by decide +kernel
theorem dX0_digest_34 : decode cX0_digest 34 = .ok (.iconst 1, 1) := by decide +kernel
theorem dX0_digest_35 : decode cX0_digest 35 = .ok (.iadd, 1) := by decide +kernel
theorem dX0_digest_36 : decode cX0_digest 36 = .ok (.istore 4, 2) := by decide +kernel
theorem dX0_digest_38 : decode cX0_digest 38 = .ok (.iload 4, 2) := by decide +kernel
theorem dX0_digest_40 : decode cX0_digest 40 = .ok (.bipush 6, 2) := by decide +kernel
theorem dX0_digest_42 : decode cX0_digest 42 = .ok (.if_icmp .ge 39, 3) := by decide +kernel
theorem dX0_digest_45 : decode cX0_digest 45 = .ok (.lload_n 1, 1) := by decide +kernel
theorem dX0_digest_46 : decode cX0_digest 46 = .ok (.aload_n 0, 1) := by decide +kernel
theorem dX0_digest_47 : decode cX0_digest 47 = .ok (.iload_n 3, 1) := by decide +kernel
theorem dX0_digest_48 : decode cX0_digest 48 = .ok (.iload 4, 2) := by decide +kernel
theorem dX0_digest_50 : decode cX0_digest 50 = .ok (.invokevirtual 151, 3) := by decide +kernel
theorem dX0_digest_53 : decode cX0_digest 53 = .ok (.i2l, 1) := by decide +kernel
theorem dX0_digest_54 : decode cX0_digest 54 = .ok (.invokestatic 185, 3) := by decide +kernel
theorem dX0_digest_57 : decode cX0_digest 57 = .ok (.lstore_n 1, 1) := by decide +kernel
theorem dX0_digest_58 : decode cX0_digest 58 = .ok (.lload_n 1, 1) := by decide +kernel
theorem dX0_digest_59 : decode cX0_digest 59 = .ok (.aload_n 0, 1) := by decide +kernel
theorem dX0_digest_60 : decode cX0_digest 60 = .ok (.iload_n 3, 1) := by decide +kernel
theorem dX0_digest_61 : decode cX0_digest 61 = .ok (.iload 4, 2) := by decide +kernel
theorem dX0_digest_63 : decode cX0_digest 63 = .ok (.iconst 5, 1) := by decide +kernel
theorem dX0_digest_64 : decode cX0_digest 64 = .ok (.invokevirtual 189, 3) := by decide +kernel
theorem dX0_digest_67 : decode cX0_digest 67 = .ok (.invokestatic 193, 3) := by decide +kernel
theorem dX0_digest_70 : decode cX0_digest 70 = .ok (.i2l, 1) := by decide +kernel
theorem dX0_digest_71 : decode cX0_digest 71 = .ok (.invokestatic 185, 3) := by decide +kernel
theorem dX0_digest_74 : decode cX0_digest 74 = .ok (.lstore_n 1, 1) := by decide +kernel
theorem dX0_digest_75 : decode cX0_digest 75 = .ok (.iinc 4 1, 3) := by decide +kernel
theorem dX0_digest_78 : decode cX0_digest 78 = .ok (.goto (-40), 3) := by decide +kernel
theorem dX0_digest_81 : decode cX0_digest 81 = .ok (.iinc 3 1, 3) := by decide +kernel
theorem dX0_digest_84 : decode cX0_digest 84 = .ok (.goto (-57), 3) := by decide +kernel
theorem dX0_digest_87 : decode cX0_digest 87 = .ok (.iconst 0, 1) := by decide +kernel
theorem dX0_digest_88 : decode cX0_digest 88 = .ok (.istore_n 3, 1) := by decide +kernel
theorem dX0_digest_89 : decode cX0_digest 89 = .ok (.iload_n 3, 1) := by decide +kernel
theorem dX0_digest_90 : decode cX0_digest 90 = .ok (.iconst 5, 1) := by decide +kernel
theorem dX0_digest_91 : decode cX0_digest 91 = .ok (.if_icmp .gt 20, 3) := by decide +kernel
theorem dX0_digest_94 : decode cX0_digest 94 = .ok (.lload_n 1, 1) := by decide +kernel
theorem dX0_digest_95 : decode cX0_digest 95 = .ok (.aload_n 0, 1) := by decide +kernel
theorem dX0_digest_96 : decode cX0_digest 96 = .ok (.iload_n 3, 1) := by decide +kernel
theorem dX0_digest_97 : decode cX0_digest 97 = .ok (.invokevirtual 168, 3) := by decide +kernel
theorem dX0_digest_100 : decode cX0_digest 100 = .ok (.i2l, 1) := by decide +kernel
theorem dX0_digest_101 : decode cX0_digest 101 = .ok (.invokestatic 185, 3) := by decide +kernel
theorem dX0_digest_104 : decode cX0_digest 104 = .ok (.lstore_n 1, 1) := by decide +kernel
theorem dX0_digest_105 : decode cX0_digest 105 = .ok (.iinc 3 1, 3) := by decide +kernel
theorem dX0_digest_108 : decode cX0_digest 108 = .ok (.goto (-19), 3) := by decide +kernel
theorem dX0_digest_111 : decode cX0_digest 111 = .ok (.lload_n 1, 1) := by decide +kernel
theorem dX0_digest_112 : decode cX0_digest 112 = .ok (.aload_n 0, 1) := by decide +kernel
theorem dX0_digest_113 : decode cX0_digest 113 = .ok (.invokevirtual 196, 3) := by decide +kernel
theorem dX0_digest_116 : decode cX0_digest 116 = .ok (.ifCond .eq 7, 3) := by decide +kernel
theorem dX0_digest_119 : decode cX0_digest 119 = .ok (.lconst 1, 1) := by decide +kernel
theorem dX0_digest_120 : decode cX0_digest 120 = .ok (.goto 4, 3) := by decide +kernel
theorem dX0_digest_123 : decode cX0_digest 123 = .ok (.lconst 0, 1) := by decide +kernel
theorem dX0_digest_124 : decode cX0_digest 124 = .ok (.invokestatic 185, 3) := by decide +kernel
theorem dX0_digest_127 : decode cX0_digest 127 = .ok (.lreturn, 1) := by decide +kernel
theorem dX0_checkMoment_0 : decode cX0_checkMoment 0 = .ok (.iload_n 0, 1) := by decide +kernel
theorem dX0_checkMoment_1 : decode cX0_checkMoment 1 = .ok (.ifCond .lt 9, 3) := by decide +kernel
theorem dX0_checkMoment_4 : decode cX0_checkMoment 4 = .ok (.iload_n 0, 1) := by decide +kernel
theorem dX0_checkMoment_5 : decode cX0_checkMoment 5 = .ok (.bipush 6, 2) := by decide +kernel
theorem dX0_checkMoment_7 : decode cX0_checkMoment 7 = .ok (.if_icmp .lt 13, 3) := by decide +kernel
theorem dX0_checkMoment_10 : decode cX0_checkMoment 10 = .ok (.new 200, 3) := by decide +kernel
theorem dX0_checkMoment_13 : decode cX0_checkMoment 13 = .ok (.dup, 1) := by decide +kernel
theorem dX0_checkMoment_14 : decode cX0_checkMoment 14 = .ok (.ldc 202, 2) := by decide +kernel
theorem dX0_checkMoment_16 : decode cX0_checkMoment 16 = .ok (.invokespecial 204, 3) := by decide +kernel
theorem dX0_checkMoment_19 : decode cX0_checkMoment 19 = .ok (.athrow, 1) := by decide +kernel
theorem dX0_checkMoment_20 : decode cX0_checkMoment 20 = .ok (.return_, 1) := by decide +kernel
theorem dX0_checkRange_0 : decode cX0_checkRange 0 = .ok (.iload_n 0, 1) := by decide +kernel
theorem dX0_checkRange_1 : decode cX0_checkRange 1 = .ok (.iload_n 1, 1) := by decide +kernel
theorem dX0_checkRange_2 : decode cX0_checkRange 2 = .ok (.if_icmp .lt 8, 3) := by decide +kernel
theorem dX0_checkRange_5 : decode cX0_checkRange 5 = .ok (.iload_n 0, 1) := by decide +kernel
theorem dX0_checkRange_6 : decode cX0_checkRange 6 = .ok (.iload_n 2, 1) := by decide +kernel
theorem dX0_checkRange_7 : decode cX0_checkRange 7 = .ok (.if_icmp .le 13, 3) := by decide +kernel
theorem dX0_checkRange_10 : decode cX0_checkRange 10 = .ok (.new 207, 3) := by decide +kernel
theorem dX0_checkRange_13 : decode cX0_checkRange 13 = .ok (.dup, 1) := by decide +kernel
theorem dX0_checkRange_14 : decode cX0_checkRange 14 = .ok (.ldc 209, 2) := by decide +kernel
theorem dX0_checkRange_16 : decode cX0_checkRange 16 = .ok (.invokespecial 211, 3) := by decide +kernel
theorem dX0_checkRange_19 : decode cX0_checkRange 19 = .ok (.athrow, 1) := by decide +kernel
theorem dX0_checkRange_20 : decode cX0_checkRange 20 = .ok (.return_, 1) := by decide +kernel
theorem dX0_refuse_0 : decode cX0_refuse 0 = .ok (.aload_n 0, 1) := by decide +kernel
theorem dX0_refuse_1 : decode cX0_refuse 1 = .ok (.dup, 1) := by decide +kernel
theorem dX0_refuse_2 : decode cX0_refuse 2 = .ok (.getfield 212, 3) := by decide +kernel
theorem dX0_refuse_5 : decode cX0_refuse 5 = .ok (.iconst 1, 1) := by decide +kernel
theorem dX0_refuse_6 : decode cX0_refuse 6 = .ok (.iadd, 1) := by decide +kernel
theorem dX0_refuse_7 : decode cX0_refuse 7 = .ok (.putfield 212, 3) := by decide +kernel
theorem dX0_refuse_10 : decode cX0_refuse 10 = .ok (.bipush (-9), 2) := by decide +kernel
theorem dX0_refuse_12 : decode cX0_refuse 12 = .ok (.ireturn, 1) := by decide +kernel
theorem dX0_becomeDate_0 : decode cX0_becomeDate 0 = .ok (.iload 4, 2) := by decide +kernel
theorem dX0_becomeDate_2 : decode cX0_becomeDate 2 = .ok (.iload_n 2, 1) := by decide +kernel
theorem dX0_becomeDate_3 : decode cX0_becomeDate 3 = .ok (.iload_n 3, 1) := by decide +kernel
theorem dX0_becomeDate_4 : decode cX0_becomeDate 4 = .ok (.invokestatic 132, 3) := by decide +kernel
theorem dX0_becomeDate_7 : decode cX0_becomeDate 7 = .ok (.if_icmp .le 8, 3) := by decide +kernel
theorem dX0_becomeDate_10 : decode cX0_becomeDate 10 = .ok (.aload_n 0, 1) := by decide +kernel
theorem dX0_becomeDate_11 : decode cX0_becomeDate 11 = .ok (.invokevirtual 77, 3) := by decide +kernel
theorem dX0_becomeDate_14 : decode cX0_becomeDate 14 = .ok (.ireturn, 1) := by decide +kernel
theorem dX0_becomeDate_15 : decode cX0_becomeDate 15 = .ok (.aload_n 0, 1) := by decide +kernel
theorem dX0_becomeDate_16 : decode cX0_becomeDate 16 = .ok (.getfield 9, 3) := by decide +kernel
theorem dX0_becomeDate_19 : decode cX0_becomeDate 19 = .ok (.iload_n 1, 1) := by decide +kernel
theorem dX0_becomeDate_20 : decode cX0_becomeDate 20 = .ok (.iload_n 2, 1) := by decide +kernel
theorem dX0_becomeDate_21 : decode cX0_becomeDate 21 = .ok (.iastore, 1) := by decide +kernel
theorem dX0_becomeDate_22 : decode cX0_becomeDate 22 = .ok (.aload_n 0, 1) := by decide +kernel
theorem dX0_becomeDate_23 : decode cX0_becomeDate 23 = .ok (.getfield 13, 3) := by decide +kernel
theorem dX0_becomeDate_26 : decode cX0_becomeDate 26 = .ok (.iload_n 1, 1) := by decide +kernel
theorem dX0_becomeDate_27 : decode cX0_becomeDate 27 = .ok (.iload_n 3, 1) := by decide +kernel
theorem dX0_becomeDate_28 : decode cX0_becomeDate 28 = .ok (.iastore, 1) := by decide +kernel
theorem dX0_becomeDate_29 : decode cX0_becomeDate 29 = .ok (.aload_n 0, 1) := by decide +kernel
theorem dX0_becomeDate_30 : decode cX0_becomeDate 30 = .ok (.getfield 16, 3) := by decide +kernel
theorem dX0_becomeDate_33 : decode cX0_becomeDate 33 = .ok (.iload_n 1, 1) := by decide +kernel
theorem dX0_becomeDate_34 : decode cX0_becomeDate 34 = .ok (.iload 4, 2) := by decide +kernel
theorem dX0_becomeDate_36 : decode cX0_becomeDate 36 = .ok (.iastore, 1) := by decide +kernel
theorem dX0_becomeDate_37 : decode cX0_becomeDate 37 = .ok (.aload_n 0, 1) := by decide +kernel
theorem dX0_becomeDate_38 : decode cX0_becomeDate 38 = .ok (.getfield 19, 3) := by decide +kernel
theorem dX0_becomeDate_41 : decode cX0_becomeDate 41 = .ok (.iload_n 1, 1) := by decide +kernel
theorem dX0_becomeDate_42 : decode cX0_becomeDate 42 = .ok (.iload_n 2, 1) := by decide +kernel
theorem dX0_becomeDate_43 : decode cX0_becomeDate 43 = .ok (.iload_n 3, 1) := by decide +kernel
theorem dX0_becomeDate_44 : decode cX0_becomeDate 44 = .ok (.iload 4, 2) := by decide +kernel
theorem dX0_becomeDate_46 : decode cX0_becomeDate 46 = .ok (.invokestatic 215, 3) := by decide +kernel
theorem dX0_becomeDate_49 : decode cX0_becomeDate 49 = .ok (.lastore, 1) := by decide +kernel
theorem dX0_becomeDate_50 : decode cX0_becomeDate 50 = .ok (.aload_n 0, 1) := by decide +kernel
theorem dX0_becomeDate_51 : decode cX0_becomeDate 51 = .ok (.getfield 23, 3) := by decide +kernel
theorem dX0_becomeDate_54 : decode cX0_becomeDate 54 = .ok (.iload_n 1, 1) := by decide +kernel
theorem dX0_becomeDate_55 : decode cX0_becomeDate 55 = .ok (.lload 5, 2) := by decide +kernel
theorem dX0_becomeDate_57 : decode cX0_becomeDate 57 = .ok (.lastore, 1) := by decide +kernel
theorem dX0_becomeDate_58 : decode cX0_becomeDate 58 = .ok (.aload_n 0, 1) := by decide +kernel
theorem dX0_becomeDate_59 : decode cX0_becomeDate 59 = .ok (.dup, 1) := by decide +kernel
theorem dX0_becomeDate_60 : decode cX0_becomeDate 60 = .ok (.getfield 218, 3) := by decide +kernel
theorem dX0_becomeDate_63 : decode cX0_becomeDate 63 = .ok (.iconst 1, 1) := by decide +kernel
theorem dX0_becomeDate_64 : decode cX0_becomeDate 64 = .ok (.iadd, 1) := by decide +kernel
theorem dX0_becomeDate_65 : decode cX0_becomeDate 65 = .ok (.putfield 218, 3) := by decide +kernel
theorem dX0_becomeDate_68 : decode cX0_becomeDate 68 = .ok (.aload_n 0, 1) := by decide +kernel
theorem dX0_becomeDate_69 : decode cX0_becomeDate 69 = .ok (.getfield 19, 3) := by decide +kernel
theorem dX0_becomeDate_72 : decode cX0_becomeDate 72 = .ok (.iload_n 1, 1) := by decide +kernel
theorem dX0_becomeDate_73 : decode cX0_becomeDate 73 = .ok (.laload, 1) := by decide +kernel
theorem dX0_becomeDate_74 : decode cX0_becomeDate 74 = .ok (.invokestatic 129, 3) := by decide +kernel
theorem dX0_becomeDate_77 : decode cX0_becomeDate 77 = .ok (.ireturn, 1) := by decide +kernel
theorem dX0_becomeDay_0 : decode cX0_becomeDay 0 = .ok (.lload_n 2, 1) := by decide +kernel
theorem dX0_becomeDay_1 : decode cX0_becomeDay 1 = .ok (.ldc2_w 221, 3) := by decide +kernel
theorem dX0_becomeDay_4 : decode cX0_becomeDay 4 = .ok (.lcmp, 1) := by decide +kernel
theorem dX0_becomeDay_5 : decode cX0_becomeDay 5 = .ok (.ifCond .lt 11, 3) := by decide +kernel
theorem dX0_becomeDay_8 : decode cX0_becomeDay 8 = .ok (.lload_n 2, 1) := by decide +kernel
theorem dX0_becomeDay_9 : decode cX0_becomeDay 9 = .ok (.ldc2_w 223, 3) := by decide +kernel
theorem dX0_becomeDay_12 : decode cX0_becomeDay 12 = .ok (.lcmp, 1) := by decide +kernel
theorem dX0_becomeDay_13 : decode cX0_becomeDay 13 = .ok (.ifCond .le 8, 3) := by decide +kernel
theorem dX0_becomeDay_16 : decode cX0_becomeDay 16 = .ok (.aload_n 0, 1) := by decide +kernel
theorem dX0_becomeDay_17 : decode cX0_becomeDay 17 = .ok (.invokevirtual 77, 3) := by decide +kernel
theorem dX0_becomeDay_20 : decode cX0_becomeDay 20 = .ok (.ireturn, 1) := by decide +kernel
theorem dX0_becomeDay_21 : decode cX0_becomeDay 21 = .ok (.lload_n 2, 1) := by decide +kernel
theorem dX0_becomeDay_22 : decode cX0_becomeDay 22 = .ok (.invokestatic 225, 3) := by decide +kernel
theorem dX0_becomeDay_25 : decode cX0_becomeDay 25 = .ok (.istore 6, 2) := by decide +kernel
theorem dX0_becomeDay_27 : decode cX0_becomeDay 27 = .ok (.lload_n 2, 1) := by decide +kernel
theorem dX0_becomeDay_28 : decode cX0_becomeDay 28 = .ok (.iload 6, 2) := by decide +kernel
theorem dX0_becomeDay_30 : decode cX0_becomeDay 30 = .ok (.invokestatic 26, 3) := by decide +kernel
theorem dX0_becomeDay_33 : decode cX0_becomeDay 33 = .ok (.lsub, 1) := by decide +kernel
theorem dX0_becomeDay_34 : decode cX0_becomeDay 34 = .ok (.l2i, 1) := by decide +kernel
theorem dX0_becomeDay_35 : decode cX0_becomeDay 35 = .ok (.iconst 1, 1) := by decide +kernel
theorem dX0_becomeDay_36 : decode cX0_becomeDay 36 = .ok (.iadd, 1) := by decide +kernel
theorem dX0_becomeDay_37 : decode cX0_becomeDay 37 = .ok (.istore 7, 2) := by decide +kernel
theorem dX0_becomeDay_39 : decode cX0_becomeDay 39 = .ok (.iload 6, 2) := by decide +kernel
theorem dX0_becomeDay_41 : decode cX0_becomeDay 41 = .ok (.iload 7, 2) := by decide +kernel
theorem dX0_becomeDay_43 : decode cX0_becomeDay 43 = .ok (.invokestatic 228, 3) := by decide +kernel
theorem dX0_becomeDay_46 : decode cX0_becomeDay 46 = .ok (.istore 8, 2) := by decide +kernel
theorem dX0_becomeDay_48 : decode cX0_becomeDay 48 = .ok (.aload_n 0, 1) := by decide +kernel
theorem dX0_becomeDay_49 : decode cX0_becomeDay 49 = .ok (.iload_n 1, 1) := by decide +kernel
theorem dX0_becomeDay_50 : decode cX0_becomeDay 50 = .ok (.iload 6, 2) := by decide +kernel
theorem dX0_becomeDay_52 : decode cX0_becomeDay 52 = .ok (.iload 8, 2) := by decide +kernel
theorem dX0_becomeDay_54 : decode cX0_becomeDay 54 = .ok (.iload 7, 2) := by decide +kernel
theorem dX0_becomeDay_56 : decode cX0_becomeDay 56 = .ok (.iload 6, 2) := by decide +kernel
theorem dX0_becomeDay_58 : decode cX0_becomeDay 58 = .ok (.iload 8, 2) := by decide +kernel
theorem dX0_becomeDay_60 : decode cX0_becomeDay 60 = .ok (.invokestatic 231, 3) := by decide +kernel
theorem dX0_becomeDay_63 : decode cX0_becomeDay 63 = .ok (.isub, 1) := by decide +kernel
theorem dX0_becomeDay_64 : decode cX0_becomeDay 64 = .ok (.lload 4, 2) := by decide +kernel
theorem dX0_becomeDay_66 : decode cX0_becomeDay 66 = .ok (.invokevirtual 55, 3) := by decide +kernel
theorem dX0_becomeDay_69 : decode cX0_becomeDay 69 = .ok (.ireturn, 1) := by decide +kernel
theorem dX0_becomeMonth_0 : decode cX0_becomeMonth 0 = .ok (.aload_n 0, 1) := by decide +kernel
theorem dX0_becomeMonth_1 : decode cX0_becomeMonth 1 = .ok (.getfield 16, 3) := by decide +kernel
theorem dX0_becomeMonth_4 : decode cX0_becomeMonth 4 = .ok (.iload_n 1, 1) := by decide +kernel
theorem dX0_becomeMonth_5 : decode cX0_becomeMonth 5 = .ok (.iaload, 1) := by decide +kernel
theorem dX0_becomeMonth_6 : decode cX0_becomeMonth 6 = .ok (.iload_n 2, 1) := by decide +kernel
theorem dX0_becomeMonth_7 : decode cX0_becomeMonth 7 = .ok (.iload_n 3, 1) := by decide +kernel
theorem dX0_becomeMonth_8 : decode cX0_becomeMonth 8 = .ok (.invokestatic 132, 3) := by decide +kernel
theorem dX0_becomeMonth_11 : decode cX0_becomeMonth 11 = .ok (.invokestatic 234, 3) := by decide +kernel
theorem dX0_becomeMonth_14 : decode cX0_becomeMonth 14 = .ok (.istore 4, 2) := by decide +kernel
theorem dX0_becomeMonth_16 : decode cX0_becomeMonth 16 = .ok (.aload_n 0, 1) := by decide +kernel
theorem dX0_becomeMonth_17 : decode cX0_becomeMonth 17 = .ok (.iload_n 1, 1) := by decide +kernel
theorem dX0_becomeMonth_18 : decode cX0_becomeMonth 18 = .ok (.iload_n 2, 1) := by decide +kernel
theorem dX0_becomeMonth_19 : decode cX0_becomeMonth 19 = .ok (.iload_n 3, 1) := by decide +kernel
theorem dX0_becomeMonth_20 : decode cX0_becomeMonth 20 = .ok (.iload 4, 2) := by decide +kernel
theorem dX0_becomeMonth_22 : decode cX0_becomeMonth 22 = .ok (.aload_n 0, 1) := by decide +kernel
theorem dX0_becomeMonth_23 : decode cX0_becomeMonth 23 = .ok (.getfield 23, 3) := by decide +kernel
theorem dX0_becomeMonth_26 : decode cX0_becomeMonth 26 = .ok (.iload_n 1, 1) := by decide +kernel
theorem dX0_becomeMonth_27 : decode cX0_becomeMonth 27 = .ok (.laload, 1) := by decide +kernel
theorem dX0_becomeMonth_28 : decode cX0_becomeMonth 28 = .ok (.invokevirtual 55, 3) := by decide +kernel
theorem dX0_becomeMonth_31 : decode cX0_becomeMonth 31 = .ok (.ireturn, 1) := by decide +kernel
theorem dX0_becomeAs_0 : decode cX0_becomeAs 0 = .ok (.aload_n 0, 1) := by decide +kernel
theorem dX0_becomeAs_1 : decode cX0_becomeAs 1 = .ok (.iload_n 1, 1) := by decide +kernel
theorem dX0_becomeAs_2 : decode cX0_becomeAs 2 = .ok (.aload_n 0, 1) := by decide +kernel
theorem dX0_becomeAs_3 : decode cX0_becomeAs 3 = .ok (.getfield 9, 3) := by decide +kernel
theorem dX0_becomeAs_6 : decode cX0_becomeAs 6 = .ok (.iload_n 2, 1) := by decide +kernel
theorem dX0_becomeAs_7 : decode cX0_becomeAs 7 = .ok (.iaload, 1) := by decide +kernel
theorem dX0_becomeAs_8 : decode cX0_becomeAs 8 = .ok (.aload_n 0, 1) := by decide +kernel
theorem dX0_becomeAs_9 : decode cX0_becomeAs 9 = .ok (.getfield 13, 3) := by decide +kernel
theorem dX0_becomeAs_12 : decode cX0_becomeAs 12 = .ok (.iload_n 2, 1) := by decide +kernel
theorem dX0_becomeAs_13 : decode cX0_becomeAs 13 = .ok (.iaload, 1) := by decide +kernel
theorem dX0_becomeAs_14 : decode cX0_becomeAs 14 = .ok (.aload_n 0, 1) := by decide +kernel
theorem dX0_becomeAs_15 : decode cX0_becomeAs 15 = .ok (.getfield 16, 3) := by decide +kernel
theorem dX0_becomeAs_18 : decode cX0_becomeAs 18 = .ok (.iload_n 2, 1) := by decide +kernel
theorem dX0_becomeAs_19 : decode cX0_becomeAs 19 = .ok (.iaload, 1) := by decide +kernel
theorem dX0_becomeAs_20 : decode cX0_becomeAs 20 = .ok (.lload_n 3, 1) := by decide +kernel
theorem dX0_becomeAs_21 : decode cX0_becomeAs 21 = .ok (.invokevirtual 55, 3) := by decide +kernel
theorem dX0_becomeAs_24 : decode cX0_becomeAs 24 = .ok (.ireturn, 1) := by decide +kernel
theorem dX0_goMonths_0 : decode cX0_goMonths 0 = .ok (.aload_n 0, 1) := by decide +kernel
theorem dX0_goMonths_1 : decode cX0_goMonths 1 = .ok (.iload_n 1, 1) := by decide +kernel
theorem dX0_goMonths_2 : decode cX0_goMonths 2 = .ok (.invokevirtual 239, 3) := by decide +kernel
theorem dX0_goMonths_5 : decode cX0_goMonths 5 = .ok (.lload_n 2, 1) := by decide +kernel
theorem dX0_goMonths_6 : decode cX0_goMonths 6 = .ok (.ladd, 1) := by decide +kernel
theorem dX0_goMonths_7 : decode cX0_goMonths 7 = .ok (.lstore 4, 2) := by decide +kernel
theorem dX0_goMonths_9 : decode cX0_goMonths 9 = .ok (.lload 4, 2) := by decide +kernel
theorem dX0_goMonths_11 : decode cX0_goMonths 11 = .ok (.ldc2_w 106, 3) := by decide +kernel
theorem dX0_goMonths_14 : decode cX0_goMonths 14 = .ok (.invokestatic 242, 3) := by decide +kernel
theorem dX0_goMonths_17 : decode cX0_goMonths 17 = .ok (.lstore 6, 2) := by decide +kernel
theorem dX0_goMonths_19 : decode cX0_goMonths 19 = .ok (.lload 6, 2) := by decide +kernel
theorem dX0_goMonths_21 : decode cX0_goMonths 21 = .ok (.ldc2_w 245, 3) := by decide +kernel
theorem dX0_goMonths_24 : decode cX0_goMonths 24 = .ok (.lcmp, 1) := by decide +kernel
theorem dX0_goMonths_25 : decode cX0_goMonths 25 = .ok (.ifCond .lt 12, 3) := by decide +kernel
theorem dX0_goMonths_28 : decode cX0_goMonths 28 = .ok (.lload 6, 2) := by decide +kernel
theorem dX0_goMonths_30 : decode cX0_goMonths 30 = .ok (.ldc2_w 247, 3) := by decide +kernel
theorem dX0_goMonths_33 : decode cX0_goMonths 33 = .ok (.lcmp, 1) := by decide +kernel
theorem dX0_goMonths_34 : decode cX0_goMonths 34 = .ok (.ifCond .le 8, 3) := by decide +kernel
theorem dX0_goMonths_37 : decode cX0_goMonths 37 = .ok (.aload_n 0, 1) := by decide +kernel
theorem dX0_goMonths_38 : decode cX0_goMonths 38 = .ok (.invokevirtual 77, 3) := by decide +kernel
theorem dX0_goMonths_41 : decode cX0_goMonths 41 = .ok (.ireturn, 1) := by decide +kernel
theorem dX0_goMonths_42 : decode cX0_goMonths 42 = .ok (.aload_n 0, 1) := by decide +kernel
theorem dX0_goMonths_43 : decode cX0_goMonths 43 = .ok (.iload_n 1, 1) := by decide +kernel
theorem dX0_goMonths_44 : decode cX0_goMonths 44 = .ok (.lload 6, 2) := by decide +kernel
theorem dX0_goMonths_46 : decode cX0_goMonths 46 = .ok (.l2i, 1) := by decide +kernel
theorem dX0_goMonths_47 : decode cX0_goMonths 47 = .ok (.lload 4, 2) := by decide +kernel
theorem dX0_goMonths_49 : decode cX0_goMonths 49 = .ok (.ldc2_w 106, 3) := by decide +kernel
theorem dX0_goMonths_52 : decode cX0_goMonths 52 = .ok (.invokestatic 249, 3) := by decide +kernel
theorem dX0_goMonths_55 : decode cX0_goMonths 55 = .ok (.l2i, 1) := by decide +kernel
theorem dX0_goMonths_56 : decode cX0_goMonths 56 = .ok (.iconst 1, 1) := by decide +kernel
theorem dX0_goMonths_57 : decode cX0_goMonths 57 = .ok (.iadd, 1) := by decide +kernel
theorem dX0_goMonths_58 : decode cX0_goMonths 58 = .ok (.invokevirtual 69, 3) := by decide +kernel
theorem dX0_goMonths_61 : decode cX0_goMonths 61 = .ok (.ireturn, 1) := by decide +kernel
theorem dX0_goUnits_0 : decode cX0_goUnits 0 = .ok (.iload 4, 2) := by decide +kernel
theorem dX0_goUnits_2 : decode cX0_goUnits 2 = .ok (.bipush 8, 2) := by decide +kernel
theorem dX0_goUnits_4 : decode cX0_goUnits 4 = .ok (.if_icmp .ne 15, 3) := by decide +kernel
theorem dX0_goUnits_7 : decode cX0_goUnits 7 = .ok (.aload_n 0, 1) := by decide +kernel
theorem dX0_goUnits_8 : decode cX0_goUnits 8 = .ok (.iload_n 1, 1) := by decide +kernel
theorem dX0_goUnits_9 : decode cX0_goUnits 9 = .ok (.ldc2_w 252, 3) := by decide +kernel
theorem dX0_goUnits_12 : decode cX0_goUnits 12 = .ok (.lload_n 2, 1) := by decide +kernel
theorem dX0_goUnits_13 : decode cX0_goUnits 13 = .ok (.lmul, 1) := by decide +kernel
theorem dX0_goUnits_14 : decode cX0_goUnits 14 = .ok (.lconst 0, 1) := by decide +kernel
theorem dX0_goUnits_15 : decode cX0_goUnits 15 = .ok (.invokevirtual 118, 3) := by decide +kernel
theorem dX0_goUnits_18 : decode cX0_goUnits 18 = .ok (.ireturn, 1) := by decide +kernel
theorem dX0_goUnits_19 : decode cX0_goUnits 19 = .ok (.iload 4, 2) := by decide +kernel
theorem dX0_goUnits_21 : decode cX0_goUnits 21 = .ok (.invokestatic 254, 3) := by decide +kernel
theorem dX0_goUnits_24 : decode cX0_goUnits 24 = .ok (.lstore 5, 2) := by decide +kernel
theorem dX0_goUnits_26 : decode cX0_goUnits 26 = .ok (.ldc2_w 257, 3) := by decide +kernel
theorem dX0_goUnits_29 : decode cX0_goUnits 29 = .ok (.lload 5, 2) := by decide +kernel
theorem dX0_goUnits_31 : decode cX0_goUnits 31 = .ok (.invokestatic 259, 3) := by decide +kernel
theorem dX0_goUnits_34 : decode cX0_goUnits 34 = .ok (.lstore 7, 2) := by decide +kernel
theorem dX0_goUnits_36 : decode cX0_goUnits 36 = .ok (.lload_n 2, 1) := by decide +kernel
theorem dX0_goUnits_37 : decode cX0_goUnits 37 = .ok (.lload 7, 2) := by decide +kernel
theorem dX0_goUnits_39 : decode cX0_goUnits 39 = .ok (.invokestatic 259, 3) := by decide +kernel
theorem dX0_goUnits_42 : decode cX0_goUnits 42 = .ok (.lstore 9, 2) := by decide +kernel
theorem dX0_goUnits_44 : decode cX0_goUnits 44 = .ok (.aload_n 0, 1) := by decide +kernel
theorem dX0_goUnits_45 : decode cX0_goUnits 45 = .ok (.iload_n 1, 1) := by decide +kernel
theorem dX0_goUnits_46 : decode cX0_goUnits 46 = .ok (.lload 9, 2) := by decide +kernel
theorem dX0_goUnits_48 : decode cX0_goUnits 48 = .ok (.lload_n 2, 1) := by decide +kernel
theorem dX0_goUnits_49 : decode cX0_goUnits 49 = .ok (.lload 9, 2) := by decide +kernel
theorem dX0_goUnits_51 : decode cX0_goUnits 51 = .ok (.lload 7, 2) := by decide +kernel
theorem dX0_goUnits_53 : decode cX0_goUnits 53 = .ok (.lmul, 1) := by decide +kernel
theorem dX0_goUnits_54 : decode cX0_goUnits 54 = .ok (.lsub, 1) := by decide +kernel
theorem dX0_goUnits_55 : decode cX0_goUnits 55 = .ok (.lload 5, 2) := by decide +kernel
theorem dX0_goUnits_57 : decode cX0_goUnits 57 = .ok (.lmul, 1) := by decide +kernel
theorem dX0_goUnits_58 : decode cX0_goUnits 58 = .ok (.invokevirtual 118, 3) := by decide +kernel
theorem dX0_goUnits_61 : decode cX0_goUnits 61 = .ok (.ireturn, 1) := by decide +kernel
theorem dX0_goLine_0 : decode cX0_goLine 0 = .ok (.aload_n 0, 1) := by decide +kernel
theorem dX0_goLine_1 : decode cX0_goLine 1 = .ok (.getfield 23, 3) := by decide +kernel
theorem dX0_goLine_4 : decode cX0_goLine 4 = .ok (.iload_n 1, 1) := by decide +kernel
theorem dX0_goLine_5 : decode cX0_goLine 5 = .ok (.laload, 1) := by decide +kernel
theorem dX0_goLine_6 : decode cX0_goLine 6 = .ok (.lload 4, 2) := by decide +kernel
theorem dX0_goLine_8 : decode cX0_goLine 8 = .ok (.ladd, 1) := by decide +kernel
theorem dX0_goLine_9 : decode cX0_goLine 9 = .ok (.lstore 6, 2) := by decide +kernel
theorem dX0_goLine_11 : decode cX0_goLine 11 = .ok (.aload_n 0, 1) := by decide +kernel
theorem dX0_goLine_12 : decode cX0_goLine 12 = .ok (.getfield 19, 3) := by decide +kernel
theorem dX0_goLine_15 : decode cX0_goLine 15 = .ok (.iload_n 1, 1) := by decide +kernel
theorem dX0_goLine_16 : decode cX0_goLine 16 = .ok (.laload, 1) := by decide +kernel
theorem dX0_goLine_17 : decode cX0_goLine 17 = .ok (.lload_n 2, 1) := by decide +kernel
theorem dX0_goLine_18 : decode cX0_goLine 18 = .ok (.ladd, 1) := by decide +kernel
theorem dX0_goLine_19 : decode cX0_goLine 19 = .ok (.lload 6, 2) := by decide +kernel
theorem dX0_goLine_21 : decode cX0_goLine 21 = .ok (.ldc2_w 257, 3) := by decide +kernel
theorem dX0_goLine_24 : decode cX0_goLine 24 = .ok (.invokestatic 242, 3) := by decide +kernel
theorem dX0_goLine_27 : decode cX0_goLine 27 = .ok (.ladd, 1) := by decide +kernel
theorem dX0_goLine_28 : decode cX0_goLine 28 = .ok (.lstore 8, 2) := by decide +kernel
theorem dX0_goLine_30 : decode cX0_goLine 30 = .ok (.aload_n 0, 1) := by decide +kernel
theorem dX0_goLine_31 : decode cX0_goLine 31 = .ok (.iload_n 1, 1) := by decide +kernel
theorem dX0_goLine_32 : decode cX0_goLine 32 = .ok (.lload 8, 2) := by decide +kernel
theorem dX0_goLine_34 : decode cX0_goLine 34 = .ok (.lload 6, 2) := by decide +kernel
theorem dX0_goLine_36 : decode cX0_goLine 36 = .ok (.ldc2_w 257, 3) := by decide +kernel
theorem dX0_goLine_39 : decode cX0_goLine 39 = .ok (.invokestatic 249, 3) := by decide +kernel
theorem dX0_goLine_42 : decode cX0_goLine 42 = .ok (.invokevirtual 61, 3) := by decide +kernel
theorem dX0_goLine_45 : decode cX0_goLine 45 = .ok (.ireturn, 1) := by decide +kernel
theorem dX0_isLeapYear_0 : decode cX0_isLeapYear 0 = .ok (.iload_n 0, 1) := by decide +kernel
theorem dX0_isLeapYear_1 : decode cX0_isLeapYear 1 = .ok (.iconst 4, 1) := by decide +kernel
theorem dX0_isLeapYear_2 : decode cX0_isLeapYear 2 = .ok (.irem, 1) := by decide +kernel
theorem dX0_isLeapYear_3 : decode cX0_isLeapYear 3 = .ok (.ifCond .ne 22, 3) := by decide +kernel
theorem dX0_isLeapYear_6 : decode cX0_isLeapYear 6 = .ok (.iload_n 0, 1) := by decide +kernel
theorem dX0_isLeapYear_7 : decode cX0_isLeapYear 7 = .ok (.bipush 100, 2) := by decide +kernel
theorem dX0_isLeapYear_9 : decode cX0_isLeapYear 9 = .ok (.irem, 1) := by decide +kernel
theorem dX0_isLeapYear_10 : decode cX0_isLeapYear 10 = .ok (.ifCond .ne 11, 3) := by decide +kernel
theorem dX0_isLeapYear_13 : decode cX0_isLeapYear 13 = .ok (.iload_n 0, 1) := by decide +kernel
theorem dX0_isLeapYear_14 : decode cX0_isLeapYear 14 = .ok (.sipush 400, 3) := by decide +kernel
theorem dX0_isLeapYear_17 : decode cX0_isLeapYear 17 = .ok (.irem, 1) := by decide +kernel
theorem dX0_isLeapYear_18 : decode cX0_isLeapYear 18 = .ok (.ifCond .ne 7, 3) := by decide +kernel
theorem dX0_isLeapYear_21 : decode cX0_isLeapYear 21 = .ok (.iconst 1, 1) := by decide +kernel
theorem dX0_isLeapYear_22 : decode cX0_isLeapYear 22 = .ok (.goto 4, 3) := by decide +kernel
theorem dX0_isLeapYear_25 : decode cX0_isLeapYear 25 = .ok (.iconst 0, 1) := by decide +kernel
theorem dX0_isLeapYear_26 : decode cX0_isLeapYear 26 = .ok (.ireturn, 1) := by decide +kernel
theorem dX0_yearLength_0 : decode cX0_yearLength 0 = .ok (.iload_n 0, 1) := by decide +kernel
theorem dX0_yearLength_1 : decode cX0_yearLength 1 = .ok (.invokestatic 140, 3) := by decide +kernel
theorem dX0_yearLength_4 : decode cX0_yearLength 4 = .ok (.ifCond .eq 9, 3) := by decide +kernel
theorem dX0_yearLength_7 : decode cX0_yearLength 7 = .ok (.sipush 366, 3) := by decide +kernel
theorem dX0_yearLength_10 : decode cX0_yearLength 10 = .ok (.goto 6, 3) := by decide +kernel
theorem dX0_yearLength_13 : decode cX0_yearLength 13 = .ok (.sipush 365, 3) := by decide +kernel
theorem dX0_yearLength_16 : decode cX0_yearLength 16 = .ok (.ireturn, 1) := by decide +kernel
theorem dX0_monthLength_0 : decode cX0_monthLength 0 = .ok (.iload_n 1, 1) := by decide +kernel
theorem dX0_monthLength_1 : decode cX0_monthLength 1 = .ok (.tableswitch 73 2 11 #[55, 73, 70, 73, 70, 73, 73, 70, 73, 70], 55) := by decide +kernel
theorem dX0_monthLength_56 : decode cX0_monthLength 56 = .ok (.iload_n 0, 1) := by decide +kernel
theorem dX0_monthLength_57 : decode cX0_monthLength 57 = .ok (.invokestatic 140, 3) := by decide +kernel
theorem dX0_monthLength_60 : decode cX0_monthLength 60 = .ok (.ifCond .eq 8, 3) := by decide +kernel
theorem dX0_monthLength_63 : decode cX0_monthLength 63 = .ok (.bipush 29, 2) := by decide +kernel
theorem dX0_monthLength_65 : decode cX0_monthLength 65 = .ok (.goto 5, 3) := by decide +kernel
theorem dX0_monthLength_68 : decode cX0_monthLength 68 = .ok (.bipush 28, 2) := by decide +kernel
theorem dX0_monthLength_70 : decode cX0_monthLength 70 = .ok (.ireturn, 1) := by decide +kernel
theorem dX0_monthLength_71 : decode cX0_monthLength 71 = .ok (.bipush 30, 2) := by decide +kernel
theorem dX0_monthLength_73 : decode cX0_monthLength 73 = .ok (.ireturn, 1) := by decide +kernel
theorem dX0_monthLength_74 : decode cX0_monthLength 74 = .ok (.bipush 31, 2) := by decide +kernel
theorem dX0_monthLength_76 : decode cX0_monthLength 76 = .ok (.ireturn, 1) := by decide +kernel
theorem dX0_daysAhead_0 : decode cX0_daysAhead 0 = .ok (.iload_n 1, 1) := by decide +kernel
theorem dX0_daysAhead_1 : decode cX0_daysAhead 1 = .ok (.iconst 1, 1) := by decide +kernel
theorem dX0_daysAhead_2 : decode cX0_daysAhead 2 = .ok (.if_icmp .lt 11, 3) := by decide +kernel
theorem dX0_daysAhead_5 : decode cX0_daysAhead 5 = .ok (.iload_n 1, 1) := by decide +kernel
theorem dX0_daysAhead_6 : decode cX0_daysAhead 6 = .ok (.getstatic 262, 3) := by decide +kernel
theorem dX0_daysAhead_9 : decode cX0_daysAhead 9 = .ok (.arraylength, 1) := by decide +kernel
theorem dX0_daysAhead_10 : decode cX0_daysAhead 10 = .ok (.if_icmp .le 5, 3) := by decide +kernel
theorem dX0_daysAhead_13 : decode cX0_daysAhead 13 = .ok (.iconst 0, 1) := by decide +kernel
theorem dX0_daysAhead_14 : decode cX0_daysAhead 14 = .ok (.ireturn, 1) := by decide +kernel
theorem dX0_daysAhead_15 : decode cX0_daysAhead 15 = .ok (.getstatic 262, 3) := by decide +kernel
theorem dX0_daysAhead_18 : decode cX0_daysAhead 18 = .ok (.iload_n 1, 1) := by decide +kernel
theorem dX0_daysAhead_19 : decode cX0_daysAhead 19 = .ok (.iconst 1, 1) := by decide +kernel
theorem dX0_daysAhead_20 : decode cX0_daysAhead 20 = .ok (.isub, 1) := by decide +kernel
theorem dX0_daysAhead_21 : decode cX0_daysAhead 21 = .ok (.iaload, 1) := by decide +kernel
theorem dX0_daysAhead_22 : decode cX0_daysAhead 22 = .ok (.istore_n 2, 1) := by decide +kernel
theorem dX0_daysAhead_23 : decode cX0_daysAhead 23 = .ok (.iload_n 1, 1) := by decide +kernel
theorem dX0_daysAhead_24 : decode cX0_daysAhead 24 = .ok (.iconst 2, 1) := by decide +kernel
theorem dX0_daysAhead_25 : decode cX0_daysAhead 25 = .ok (.if_icmp .le 16, 3) := by decide +kernel
theorem dX0_daysAhead_28 : decode cX0_daysAhead 28 = .ok (.iload_n 0, 1) := by decide +kernel
theorem dX0_daysAhead_29 : decode cX0_daysAhead 29 = .ok (.invokestatic 140, 3) := by decide +kernel
theorem dX0_daysAhead_32 : decode cX0_daysAhead 32 = .ok (.ifCond .eq 9, 3) := by decide +kernel
theorem dX0_daysAhead_35 : decode cX0_daysAhead 35 = .ok (.iload_n 2, 1) := by decide +kernel
theorem dX0_daysAhead_36 : decode cX0_daysAhead 36 = .ok (.iconst 1, 1) := by decide +kernel
theorem dX0_daysAhead_37 : decode cX0_daysAhead 37 = .ok (.iadd, 1) := by decide +kernel
theorem dX0_daysAhead_38 : decode cX0_daysAhead 38 = .ok (.goto 4, 3) := by decide +kernel
theorem dX0_daysAhead_41 : decode cX0_daysAhead 41 = .ok (.iload_n 2, 1) := by decide +kernel
theorem dX0_daysAhead_42 : decode cX0_daysAhead 42 = .ok (.ireturn, 1) := by decide +kernel
theorem dX0_firstDayOf_0 : decode cX0_firstDayOf 0 = .ok (.iload_n 0, 1) := by decide +kernel
theorem dX0_firstDayOf_1 : decode cX0_firstDayOf 1 = .ok (.iconst 3, 1) := by decide +kernel
theorem dX0_firstDayOf_2 : decode cX0_firstDayOf 2 = .ok (.iadd, 1) := by decide +kernel
theorem dX0_firstDayOf_3 : decode cX0_firstDayOf 3 = .ok (.iconst 4, 1) := by decide +kernel
theorem dX0_firstDayOf_4 : decode cX0_firstDayOf 4 = .ok (.invokestatic 265, 3) := by decide +kernel
theorem dX0_firstDayOf_7 : decode cX0_firstDayOf 7 = .ok (.iload_n 0, 1) := by decide +kernel
theorem dX0_firstDayOf_8 : decode cX0_firstDayOf 8 = .ok (.bipush 99, 2) := by decide +kernel
theorem dX0_firstDayOf_10 : decode cX0_firstDayOf 10 = .ok (.iadd, 1) := by decide +kernel
theorem dX0_firstDayOf_11 : decode cX0_firstDayOf 11 = .ok (.bipush 100, 2) := by decide +kernel
theorem dX0_firstDayOf_13 : decode cX0_firstDayOf 13 = .ok (.invokestatic 265, 3) := by decide +kernel
theorem dX0_firstDayOf_16 : decode cX0_firstDayOf 16 = .ok (.isub, 1) := by decide +kernel
theorem dX0_firstDayOf_17 : decode cX0_firstDayOf 17 = .ok (.iload_n 0, 1) := by decide +kernel
theorem dX0_firstDayOf_18 : decode cX0_firstDayOf 18 = .ok (.sipush 399, 3) := by decide +kernel
theorem dX0_firstDayOf_21 : decode cX0_firstDayOf 21 = .ok (.iadd, 1) := by decide +kernel
theorem dX0_firstDayOf_22 : decode cX0_firstDayOf 22 = .ok (.sipush 400, 3) := by decide +kernel
theorem dX0_firstDayOf_25 : decode cX0_firstDayOf 25 = .ok (.invokestatic 265, 3) := by decide +kernel
theorem dX0_firstDayOf_28 : decode cX0_firstDayOf 28 = .ok (.iadd, 1) := by decide +kernel
theorem dX0_firstDayOf_29 : decode cX0_firstDayOf 29 = .ok (.i2l, 1) := by decide +kernel
theorem dX0_firstDayOf_30 : decode cX0_firstDayOf 30 = .ok (.lstore_n 1, 1) := by decide +kernel
theorem dX0_firstDayOf_31 : decode cX0_firstDayOf 31 = .ok (.ldc2_w 267, 3) := by decide +kernel
theorem dX0_firstDayOf_34 : decode cX0_firstDayOf 34 = .ok (.iload_n 0, 1) := by decide +kernel
theorem dX0_firstDayOf_35 : decode cX0_firstDayOf 35 = .ok (.i2l, 1) := by decide +kernel
theorem dX0_firstDayOf_36 : decode cX0_firstDayOf 36 = .ok (.lmul, 1) := by decide +kernel
theorem dX0_firstDayOf_37 : decode cX0_firstDayOf 37 = .ok (.lload_n 1, 1) := by decide +kernel
theorem dX0_firstDayOf_38 : decode cX0_firstDayOf 38 = .ok (.ladd, 1) := by decide +kernel
theorem dX0_firstDayOf_39 : decode cX0_firstDayOf 39 = .ok (.ldc2_w 269, 3) := by decide +kernel
theorem dX0_firstDayOf_42 : decode cX0_firstDayOf 42 = .ok (.lsub, 1) := by decide +kernel
theorem dX0_firstDayOf_43 : decode cX0_firstDayOf 43 = .ok (.lreturn, 1) := by decide +kernel
theorem dX0_dayOf_0 : decode cX0_dayOf 0 = .ok (.iload_n 0, 1) := by decide +kernel
theorem dX0_dayOf_1 : decode cX0_dayOf 1 = .ok (.invokestatic 26, 3) := by decide +kernel
theorem dX0_dayOf_4 : decode cX0_dayOf 4 = .ok (.iload_n 0, 1) := by decide +kernel
theorem dX0_dayOf_5 : decode cX0_dayOf 5 = .ok (.iload_n 1, 1) := by decide +kernel
theorem dX0_dayOf_6 : decode cX0_dayOf 6 = .ok (.invokestatic 231, 3) := by decide +kernel
theorem dX0_dayOf_9 : decode cX0_dayOf 9 = .ok (.i2l, 1) := by decide +kernel
theorem dX0_dayOf_10 : decode cX0_dayOf 10 = .ok (.ladd, 1) := by decide +kernel
theorem dX0_dayOf_11 : decode cX0_dayOf 11 = .ok (.iload_n 2, 1) := by decide +kernel
theorem dX0_dayOf_12 : decode cX0_dayOf 12 = .ok (.i2l, 1) := by decide +kernel
theorem dX0_dayOf_13 : decode cX0_dayOf 13 = .ok (.ladd, 1) := by decide +kernel
theorem dX0_dayOf_14 : decode cX0_dayOf 14 = .ok (.lconst 1, 1) := by decide +kernel
theorem dX0_dayOf_15 : decode cX0_dayOf 15 = .ok (.lsub, 1) := by decide +kernel
theorem dX0_dayOf_16 : decode cX0_dayOf 16 = .ok (.lreturn, 1) := by decide +kernel
theorem dX0_yearOf_0 : decode cX0_yearOf 0 = .ok (.lload_n 0, 1) := by decide +kernel
theorem dX0_yearOf_1 : decode cX0_yearOf 1 = .ok (.ldc2_w 269, 3) := by decide +kernel
theorem dX0_yearOf_4 : decode cX0_yearOf 4 = .ok (.ladd, 1) := by decide +kernel
theorem dX0_yearOf_5 : decode cX0_yearOf 5 = .ok (.ldc2_w 271, 3) := by decide +kernel
theorem dX0_yearOf_8 : decode cX0_yearOf 8 = .ok (.lmul, 1) := by decide +kernel
theorem dX0_yearOf_9 : decode cX0_yearOf 9 = .ok (.ldc2_w 273, 3) := by decide +kernel
theorem dX0_yearOf_12 : decode cX0_yearOf 12 = .ok (.invokestatic 242, 3) := by decide +kernel
theorem dX0_yearOf_15 : decode cX0_yearOf 15 = .ok (.l2i, 1) := by decide +kernel
theorem dX0_yearOf_16 : decode cX0_yearOf 16 = .ok (.istore_n 2, 1) := by decide +kernel
theorem dX0_yearOf_17 : decode cX0_yearOf 17 = .ok (.lload_n 0, 1) := by decide +kernel
theorem dX0_yearOf_18 : decode cX0_yearOf 18 = .ok (.iload_n 2, 1) := by decide +kernel
theorem dX0_yearOf_19 : decode cX0_yearOf 19 = .ok (.invokestatic 26, 3) := by decide +kernel
theorem dX0_yearOf_22 : decode cX0_yearOf 22 = .ok (.lcmp, 1) := by decide +kernel
theorem dX0_yearOf_23 : decode cX0_yearOf 23 = .ok (.ifCond .ge 7, 3) := by decide +kernel
theorem dX0_yearOf_26 : decode cX0_yearOf 26 = .ok (.iload_n 2, 1) := by decide +kernel
theorem dX0_yearOf_27 : decode cX0_yearOf 27 = .ok (.iconst 1, 1) := by decide +kernel
theorem dX0_yearOf_28 : decode cX0_yearOf 28 = .ok (.isub, 1) := by decide +kernel
theorem dX0_yearOf_29 : decode cX0_yearOf 29 = .ok (.ireturn, 1) := by decide +kernel
theorem dX0_yearOf_30 : decode cX0_yearOf 30 = .ok (.lload_n 0, 1) := by decide +kernel
theorem dX0_yearOf_31 : decode cX0_yearOf 31 = .ok (.iload_n 2, 1) := by decide +kernel
theorem dX0_yearOf_32 : decode cX0_yearOf 32 = .ok (.iconst 1, 1) := by decide +kernel
theorem dX0_yearOf_33 : decode cX0_yearOf 33 = .ok (.iadd, 1) := by decide +kernel
theorem dX0_yearOf_34 : decode cX0_yearOf 34 = .ok (.invokestatic 26, 3) := by decide +kernel
theorem dX0_yearOf_37 : decode cX0_yearOf 37 = .ok (.lcmp, 1) := by decide +kernel
theorem dX0_yearOf_38 : decode cX0_yearOf 38 = .ok (.ifCond .ge 7, 3) := by decide +kernel
theorem dX0_yearOf_41 : decode cX0_yearOf 41 = .ok (.iload_n 2, 1) := by decide +kernel
theorem dX0_yearOf_42 : decode cX0_yearOf 42 = .ok (.goto 6, 3) := by decide +kernel
theorem dX0_yearOf_45 : decode cX0_yearOf 45 = .ok (.iload_n 2, 1) := by decide +kernel
theorem dX0_yearOf_46 : decode cX0_yearOf 46 = .ok (.iconst 1, 1) := by decide +kernel
theorem dX0_yearOf_47 : decode cX0_yearOf 47 = .ok (.iadd, 1) := by decide +kernel
theorem dX0_yearOf_48 : decode cX0_yearOf 48 = .ok (.ireturn, 1) := by decide +kernel
theorem dX0_monthOf_0 : decode cX0_monthOf 0 = .ok (.bipush 12, 2) := by decide +kernel
theorem dX0_monthOf_2 : decode cX0_monthOf 2 = .ok (.istore_n 2, 1) := by decide +kernel
theorem dX0_monthOf_3 : decode cX0_monthOf 3 = .ok (.iload_n 2, 1) := by decide +kernel
theorem dX0_monthOf_4 : decode cX0_monthOf 4 = .ok (.iconst 1, 1) := by decide +kernel
theorem dX0_monthOf_5 : decode cX0_monthOf 5 = .ok (.if_icmp .le 20, 3) := by decide +kernel
theorem dX0_monthOf_8 : decode cX0_monthOf 8 = .ok (.iload_n 1, 1) := by decide +kernel
theorem dX0_monthOf_9 : decode cX0_monthOf 9 = .ok (.iload_n 0, 1) := by decide +kernel
theorem dX0_monthOf_10 : decode cX0_monthOf 10 = .ok (.iload_n 2, 1) := by decide +kernel
theorem dX0_monthOf_11 : decode cX0_monthOf 11 = .ok (.invokestatic 231, 3) := by decide +kernel
theorem dX0_monthOf_14 : decode cX0_monthOf 14 = .ok (.if_icmp .le 5, 3) := by decide +kernel
theorem dX0_monthOf_17 : decode cX0_monthOf 17 = .ok (.iload_n 2, 1) := by decide +kernel
theorem dX0_monthOf_18 : decode cX0_monthOf 18 = .ok (.ireturn, 1) := by decide +kernel
theorem dX0_monthOf_19 : decode cX0_monthOf 19 = .ok (.iinc 2 (-1), 3) := by decide +kernel
theorem dX0_monthOf_22 : decode cX0_monthOf 22 = .ok (.goto (-19), 3) := by decide +kernel
theorem dX0_monthOf_25 : decode cX0_monthOf 25 = .ok (.iconst 1, 1) := by decide +kernel
theorem dX0_monthOf_26 : decode cX0_monthOf 26 = .ok (.ireturn, 1) := by decide +kernel
theorem dX0_weekday_0 : decode cX0_weekday 0 = .ok (.lload_n 0, 1) := by decide +kernel
theorem dX0_weekday_1 : decode cX0_weekday 1 = .ok (.ldc2_w 275, 3) := by decide +kernel
theorem dX0_weekday_4 : decode cX0_weekday 4 = .ok (.ladd, 1) := by decide +kernel
theorem dX0_weekday_5 : decode cX0_weekday 5 = .ok (.ldc2_w 252, 3) := by decide +kernel
theorem dX0_weekday_8 : decode cX0_weekday 8 = .ok (.invokestatic 249, 3) := by decide +kernel
theorem dX0_weekday_11 : decode cX0_weekday 11 = .ok (.l2i, 1) := by decide +kernel
theorem dX0_weekday_12 : decode cX0_weekday 12 = .ok (.iconst 1, 1) := by decide +kernel
theorem dX0_weekday_13 : decode cX0_weekday 13 = .ok (.iadd, 1) := by decide +kernel
theorem dX0_weekday_14 : decode cX0_weekday 14 = .ok (.ireturn, 1) := by decide +kernel
theorem dX0_yearDay_0 : decode cX0_yearDay 0 = .ok (.aload_n 0, 1) := by decide +kernel
theorem dX0_yearDay_1 : decode cX0_yearDay 1 = .ok (.getfield 9, 3) := by decide +kernel
theorem dX0_yearDay_4 : decode cX0_yearDay 4 = .ok (.iload_n 1, 1) := by decide +kernel
theorem dX0_yearDay_5 : decode cX0_yearDay 5 = .ok (.iaload, 1) := by decide +kernel
theorem dX0_yearDay_6 : decode cX0_yearDay 6 = .ok (.aload_n 0, 1) := by decide +kernel
theorem dX0_yearDay_7 : decode cX0_yearDay 7 = .ok (.getfield 13, 3) := by decide +kernel
theorem dX0_yearDay_10 : decode cX0_yearDay 10 = .ok (.iload_n 1, 1) := by decide +kernel
theorem dX0_yearDay_11 : decode cX0_yearDay 11 = .ok (.iaload, 1) := by decide +kernel
theorem dX0_yearDay_12 : decode cX0_yearDay 12 = .ok (.invokestatic 231, 3) := by decide +kernel
theorem dX0_yearDay_15 : decode cX0_yearDay 15 = .ok (.aload_n 0, 1) := by decide +kernel
theorem dX0_yearDay_16 : decode cX0_yearDay 16 = .ok (.getfield 16, 3) := by decide +kernel
theorem dX0_yearDay_19 : decode cX0_yearDay 19 = .ok (.iload_n 1, 1) := by decide +kernel
theorem dX0_yearDay_20 : decode cX0_yearDay 20 = .ok (.iaload, 1) := by decide +kernel
theorem dX0_yearDay_21 : decode cX0_yearDay 21 = .ok (.iadd, 1) := by decide +kernel
theorem dX0_yearDay_22 : decode cX0_yearDay 22 = .ok (.ireturn, 1) := by decide +kernel
theorem dX0_monthCount_0 : decode cX0_monthCount 0 = .ok (.ldc2_w 106, 3) := by decide +kernel
theorem dX0_monthCount_3 : decode cX0_monthCount 3 = .ok (.aload_n 0, 1) := by decide +kernel
theorem dX0_monthCount_4 : decode cX0_monthCount 4 = .ok (.getfield 9, 3) := by decide +kernel
theorem dX0_monthCount_7 : decode cX0_monthCount 7 = .ok (.iload_n 1, 1) := by decide +kernel
theorem dX0_monthCount_8 : decode cX0_monthCount 8 = .ok (.iaload, 1) := by decide +kernel
theorem dX0_monthCount_9 : decode cX0_monthCount 9 = .ok (.i2l, 1) := by decide +kernel
theorem dX0_monthCount_10 : decode cX0_monthCount 10 = .ok (.lmul, 1) := by decide +kernel
theorem dX0_monthCount_11 : decode cX0_monthCount 11 = .ok (.aload_n 0, 1) := by decide +kernel
theorem dX0_monthCount_12 : decode cX0_monthCount 12 = .ok (.getfield 13, 3) := by decide +kernel
theorem dX0_monthCount_15 : decode cX0_monthCount 15 = .ok (.iload_n 1, 1) := by decide +kernel
theorem dX0_monthCount_16 : decode cX0_monthCount 16 = .ok (.iaload, 1) := by decide +kernel
theorem dX0_monthCount_17 : decode cX0_monthCount 17 = .ok (.i2l, 1) := by decide +kernel
theorem dX0_monthCount_18 : decode cX0_monthCount 18 = .ok (.ladd, 1) := by decide +kernel
theorem dX0_monthCount_19 : decode cX0_monthCount 19 = .ok (.lconst 1, 1) := by decide +kernel
theorem dX0_monthCount_20 : decode cX0_monthCount 20 = .ok (.lsub, 1) := by decide +kernel
theorem dX0_monthCount_21 : decode cX0_monthCount 21 = .ok (.lreturn, 1) := by decide +kernel
theorem dX0_handTime_0 : decode cX0_handTime 0 = .ok (.iload_n 1, 1) := by decide +kernel
theorem dX0_handTime_1 : decode cX0_handTime 1 = .ok (.bipush 6, 2) := by decide +kernel
theorem dX0_handTime_3 : decode cX0_handTime 3 = .ok (.if_icmp .ne 7, 3) := by decide +kernel
theorem dX0_handTime_6 : decode cX0_handTime 6 = .ok (.iconst 2, 1) := by decide +kernel
theorem dX0_handTime_7 : decode cX0_handTime 7 = .ok (.goto 6, 3) := by decide +kernel
theorem dX0_handTime_10 : decode cX0_handTime 10 = .ok (.iload_n 1, 1) := by decide +kernel
theorem dX0_handTime_11 : decode cX0_handTime 11 = .ok (.iconst 3, 1) := by decide +kernel
theorem dX0_handTime_12 : decode cX0_handTime 12 = .ok (.irem, 1) := by decide +kernel
theorem dX0_handTime_13 : decode cX0_handTime 13 = .ok (.istore_n 2, 1) := by decide +kernel
theorem dX0_handTime_14 : decode cX0_handTime 14 = .ok (.iload_n 2, 1) := by decide +kernel
theorem dX0_handTime_15 : decode cX0_handTime 15 = .ok (.iconst 1, 1) := by decide +kernel
theorem dX0_handTime_16 : decode cX0_handTime 16 = .ok (.if_icmp .lt 10, 3) := by decide +kernel
theorem dX0_handTime_19 : decode cX0_handTime 19 = .ok (.aload_n 0, 1) := by decide +kernel
theorem dX0_handTime_20 : decode cX0_handTime 20 = .ok (.getfield 42, 3) := by decide +kernel
theorem dX0_handTime_23 : decode cX0_handTime 23 = .ok (.goto 4, 3) := by decide +kernel
theorem dX0_handTime_26 : decode cX0_handTime 26 = .ok (.iconst 0, 1) := by decide +kernel
theorem dX0_handTime_27 : decode cX0_handTime 27 = .ok (.istore_n 3, 1) := by decide +kernel
theorem dX0_handTime_28 : decode cX0_handTime 28 = .ok (.iload_n 2, 1) := by decide +kernel
theorem dX0_handTime_29 : decode cX0_handTime 29 = .ok (.iconst 2, 1) := by decide +kernel
theorem dX0_handTime_30 : decode cX0_handTime 30 = .ok (.if_icmp .lt 10, 3) := by decide +kernel
theorem dX0_handTime_33 : decode cX0_handTime 33 = .ok (.aload_n 0, 1) := by decide +kernel
theorem dX0_handTime_34 : decode cX0_handTime 34 = .ok (.getfield 45, 3) := by decide +kernel
theorem dX0_handTime_37 : decode cX0_handTime 37 = .ok (.goto 4, 3) := by decide +kernel
theorem dX0_handTime_40 : decode cX0_handTime 40 = .ok (.iconst 0, 1) := by decide +kernel
theorem dX0_handTime_41 : decode cX0_handTime 41 = .ok (.istore 4, 2) := by decide +kernel
theorem dX0_handTime_43 : decode cX0_handTime 43 = .ok (.aload_n 0, 1) := by decide +kernel
theorem dX0_handTime_44 : decode cX0_handTime 44 = .ok (.getfield 35, 3) := by decide +kernel
theorem dX0_handTime_47 : decode cX0_handTime 47 = .ok (.aload_n 0, 1) := by decide +kernel
theorem dX0_handTime_48 : decode cX0_handTime 48 = .ok (.getfield 39, 3) := by decide +kernel
theorem dX0_handTime_51 : decode cX0_handTime 51 = .ok (.iload_n 3, 1) := by decide +kernel
theorem dX0_handTime_52 : decode cX0_handTime 52 = .ok (.iload 4, 2) := by decide +kernel
theorem dX0_handTime_54 : decode cX0_handTime 54 = .ok (.invokestatic 277, 3) := by decide +kernel
theorem dX0_handTime_57 : decode cX0_handTime 57 = .ok (.lreturn, 1) := by decide +kernel
theorem dX0_timeOf_0 : decode cX0_timeOf 0 = .ok (.iload_n 0, 1) := by decide +kernel
theorem dX0_timeOf_1 : decode cX0_timeOf 1 = .ok (.i2l, 1) := by decide +kernel
theorem dX0_timeOf_2 : decode cX0_timeOf 2 = .ok (.ldc2_w 85, 3) := by decide +kernel
theorem dX0_timeOf_5 : decode cX0_timeOf 5 = .ok (.lmul, 1) := by decide +kernel
theorem dX0_timeOf_6 : decode cX0_timeOf 6 = .ok (.iload_n 1, 1) := by decide +kernel
theorem dX0_timeOf_7 : decode cX0_timeOf 7 = .ok (.i2l, 1) := by decide +kernel
theorem dX0_timeOf_8 : decode cX0_timeOf 8 = .ok (.ldc2_w 90, 3) := by decide +kernel
theorem dX0_timeOf_11 : decode cX0_timeOf 11 = .ok (.lmul, 1) := by decide +kernel
theorem dX0_timeOf_12 : decode cX0_timeOf 12 = .ok (.ladd, 1) := by decide +kernel
theorem dX0_timeOf_13 : decode cX0_timeOf 13 = .ok (.iload_n 2, 1) := by decide +kernel
theorem dX0_timeOf_14 : decode cX0_timeOf 14 = .ok (.i2l, 1) := by decide +kernel
theorem dX0_timeOf_15 : decode cX0_timeOf 15 = .ok (.ldc2_w 95, 3) := by decide +kernel
theorem dX0_timeOf_18 : decode cX0_timeOf 18 = .ok (.lmul, 1) := by decide +kernel
theorem dX0_timeOf_19 : decode cX0_timeOf 19 = .ok (.ladd, 1) := by decide +kernel
theorem dX0_timeOf_20 : decode cX0_timeOf 20 = .ok (.iload_n 3, 1) := by decide +kernel
theorem dX0_timeOf_21 : decode cX0_timeOf 21 = .ok (.i2l, 1) := by decide +kernel
theorem dX0_timeOf_22 : decode cX0_timeOf 22 = .ok (.ladd, 1) := by decide +kernel
theorem dX0_timeOf_23 : decode cX0_timeOf 23 = .ok (.lreturn, 1) := by decide +kernel
theorem dX0_hourOf_0 : decode cX0_hourOf 0 = .ok (.lload_n 0, 1) := by decide +kernel
theorem dX0_hourOf_1 : decode cX0_hourOf 1 = .ok (.ldc2_w 85, 3) := by decide +kernel
theorem dX0_hourOf_4 : decode cX0_hourOf 4 = .ok (.ldiv, 1) := by decide +kernel
theorem dX0_hourOf_5 : decode cX0_hourOf 5 = .ok (.l2i, 1) := by decide +kernel
theorem dX0_hourOf_6 : decode cX0_hourOf 6 = .ok (.ireturn, 1) := by decide +kernel
theorem dX0_minuteOf_0 : decode cX0_minuteOf 0 = .ok (.lload_n 0, 1) := by decide +kernel
theorem dX0_minuteOf_1 : decode cX0_minuteOf 1 = .ok (.ldc2_w 85, 3) := by decide +kernel
theorem dX0_minuteOf_4 : decode cX0_minuteOf 4 = .ok (.lrem, 1) := by decide +kernel
theorem dX0_minuteOf_5 : decode cX0_minuteOf 5 = .ok (.ldc2_w 90, 3) := by decide +kernel
theorem dX0_minuteOf_8 : decode cX0_minuteOf 8 = .ok (.ldiv, 1) := by decide +kernel
theorem dX0_minuteOf_9 : decode cX0_minuteOf 9 = .ok (.l2i, 1) := by decide +kernel
theorem dX0_minuteOf_10 : decode cX0_minuteOf 10 = .ok (.ireturn, 1) := by decide +kernel
theorem dX0_secondOf_0 : decode cX0_secondOf 0 = .ok (.lload_n 0, 1) := by decide +kernel
theorem dX0_secondOf_1 : decode cX0_secondOf 1 = .ok (.ldc2_w 90, 3) := by decide +kernel
theorem dX0_secondOf_4 : decode cX0_secondOf 4 = .ok (.lrem, 1) := by decide +kernel
theorem dX0_secondOf_5 : decode cX0_secondOf 5 = .ok (.ldc2_w 95, 3) := by decide +kernel
theorem dX0_secondOf_8 : decode cX0_secondOf 8 = .ok (.ldiv, 1) := by decide +kernel
theorem dX0_secondOf_9 : decode cX0_secondOf 9 = .ok (.l2i, 1) := by decide +kernel
theorem dX0_secondOf_10 : decode cX0_secondOf 10 = .ok (.ireturn, 1) := by decide +kernel
theorem dX0_nanoOfSecond_0 : decode cX0_nanoOfSecond 0 = .ok (.lload_n 0, 1) := by decide +kernel
theorem dX0_nanoOfSecond_1 : decode cX0_nanoOfSecond 1 = .ok (.ldc2_w 95, 3) := by decide +kernel
theorem dX0_nanoOfSecond_4 : decode cX0_nanoOfSecond 4 = .ok (.lrem, 1) := by decide +kernel
theorem dX0_nanoOfSecond_5 : decode cX0_nanoOfSecond 5 = .ok (.l2i, 1) := by decide +kernel
theorem dX0_nanoOfSecond_6 : decode cX0_nanoOfSecond 6 = .ok (.ireturn, 1) := by decide +kernel
theorem dX0_cutNano_0 : decode cX0_cutNano 0 = .ok (.iload_n 2, 1) := by decide +kernel
theorem dX0_cutNano_1 : decode cX0_cutNano 1 = .ok (.invokestatic 254, 3) := by decide +kernel
theorem dX0_cutNano_4 : decode cX0_cutNano 4 = .ok (.lstore_n 3, 1) := by decide +kernel
theorem dX0_cutNano_5 : decode cX0_cutNano 5 = .ok (.lload_n 0, 1) := by decide +kernel
theorem dX0_cutNano_6 : decode cX0_cutNano 6 = .ok (.lload_n 3, 1) := by decide +kernel
theorem dX0_cutNano_7 : decode cX0_cutNano 7 = .ok (.invokestatic 259, 3) := by decide +kernel
theorem dX0_cutNano_10 : decode cX0_cutNano 10 = .ok (.lload_n 3, 1) := by decide +kernel
theorem dX0_cutNano_11 : decode cX0_cutNano 11 = .ok (.lmul, 1) := by decide +kernel
theorem dX0_cutNano_12 : decode cX0_cutNano 12 = .ok (.lreturn, 1) := by decide +kernel
theorem dX0_nanosOfUnit_0 : decode cX0_nanosOfUnit 0 = .ok (.iload_n 0, 1) := by decide +kernel
theorem dX0_nanosOfUnit_1 : decode cX0_nanosOfUnit 1 = .ok (.tableswitch 69 0 6 #[43, 45, 49, 53, 57, 61, 65], 43) := by decide +kernel
theorem dX0_nanosOfUnit_44 : decode cX0_nanosOfUnit 44 = .ok (.lconst 1, 1) := by decide +kernel
theorem dX0_nanosOfUnit_45 : decode cX0_nanosOfUnit 45 = .ok (.lreturn, 1) := by decide +kernel
theorem dX0_nanosOfUnit_46 : decode cX0_nanosOfUnit 46 = .ok (.ldc2_w 281, 3) := by decide +kernel
theorem dX0_nanosOfUnit_49 : decode cX0_nanosOfUnit 49 = .ok (.lreturn, 1) := by decide +kernel
theorem dX0_nanosOfUnit_50 : decode cX0_nanosOfUnit 50 = .ok (.ldc2_w 283, 3) := by decide +kernel
theorem dX0_nanosOfUnit_53 : decode cX0_nanosOfUnit 53 = .ok (.lreturn, 1) := by decide +kernel
theorem dX0_nanosOfUnit_54 : decode cX0_nanosOfUnit 54 = .ok (.ldc2_w 95, 3) := by decide +kernel
theorem dX0_nanosOfUnit_57 : decode cX0_nanosOfUnit 57 = .ok (.lreturn, 1) := by decide +kernel
theorem dX0_nanosOfUnit_58 : decode cX0_nanosOfUnit 58 = .ok (.ldc2_w 90, 3) := by decide +kernel
theorem dX0_nanosOfUnit_61 : decode cX0_nanosOfUnit 61 = .ok (.lreturn, 1) := by decide +kernel
theorem dX0_nanosOfUnit_62 : decode cX0_nanosOfUnit 62 = .ok (.ldc2_w 85, 3) := by decide +kernel
theorem dX0_nanosOfUnit_65 : decode cX0_nanosOfUnit 65 = .ok (.lreturn, 1) := by decide +kernel
theorem dX0_nanosOfUnit_66 : decode cX0_nanosOfUnit 66 = .ok (.ldc2_w 285, 3) := by decide +kernel
theorem dX0_nanosOfUnit_69 : decode cX0_nanosOfUnit 69 = .ok (.lreturn, 1) := by decide +kernel
theorem dX0_nanosOfUnit_70 : decode cX0_nanosOfUnit 70 = .ok (.ldc2_w 257, 3) := by decide +kernel
theorem dX0_nanosOfUnit_73 : decode cX0_nanosOfUnit 73 = .ok (.lreturn, 1) := by decide +kernel
theorem dX0_monthsOfUnit_0 : decode cX0_monthsOfUnit 0 = .ok (.iload_n 0, 1) := by decide +kernel
theorem dX0_monthsOfUnit_1 : decode cX0_monthsOfUnit 1 = .ok (.tableswitch 45 9 12 #[31, 33, 37, 41], 31) := by decide +kernel
theorem dX0_monthsOfUnit_32 : decode cX0_monthsOfUnit 32 = .ok (.lconst 1, 1) := by decide +kernel
theorem dX0_monthsOfUnit_33 : decode cX0_monthsOfUnit 33 = .ok (.lreturn, 1) := by decide +kernel
theorem dX0_monthsOfUnit_34 : decode cX0_monthsOfUnit 34 = .ok (.ldc2_w 106, 3) := by decide +kernel
theorem dX0_monthsOfUnit_37 : decode cX0_monthsOfUnit 37 = .ok (.lreturn, 1) := by decide +kernel
theorem dX0_monthsOfUnit_38 : decode cX0_monthsOfUnit 38 = .ok (.ldc2_w 287, 3) := by decide +kernel
theorem dX0_monthsOfUnit_41 : decode cX0_monthsOfUnit 41 = .ok (.lreturn, 1) := by decide +kernel
theorem dX0_monthsOfUnit_42 : decode cX0_monthsOfUnit 42 = .ok (.ldc2_w 289, 3) := by decide +kernel
theorem dX0_monthsOfUnit_45 : decode cX0_monthsOfUnit 45 = .ok (.lreturn, 1) := by decide +kernel
theorem dX0_monthsOfUnit_46 : decode cX0_monthsOfUnit 46 = .ok (.ldc2_w 291, 3) := by decide +kernel
theorem dX0_monthsOfUnit_49 : decode cX0_monthsOfUnit 49 = .ok (.lreturn, 1) := by decide +kernel
theorem dX0_quotient_0 : decode cX0_quotient 0 = .ok (.lload_n 2, 1) := by decide +kernel
theorem dX0_quotient_1 : decode cX0_quotient 1 = .ok (.lconst 0, 1) := by decide +kernel
theorem dX0_quotient_2 : decode cX0_quotient 2 = .ok (.lcmp, 1) := by decide +kernel
theorem dX0_quotient_3 : decode cX0_quotient 3 = .ok (.ifCond .ne 7, 3) := by decide +kernel
theorem dX0_quotient_6 : decode cX0_quotient 6 = .ok (.lconst 0, 1) := by decide +kernel
theorem dX0_quotient_7 : decode cX0_quotient 7 = .ok (.goto 6, 3) := by decide +kernel
theorem dX0_quotient_10 : decode cX0_quotient 10 = .ok (.lload_n 0, 1) := by decide +kernel
theorem dX0_quotient_11 : decode cX0_quotient 11 = .ok (.lload_n 2, 1) := by decide +kernel
theorem dX0_quotient_12 : decode cX0_quotient 12 = .ok (.ldiv, 1) := by decide +kernel
theorem dX0_quotient_13 : decode cX0_quotient 13 = .ok (.lreturn, 1) := by decide +kernel
theorem dX0_timeField_0 : decode cX0_timeField 0 = .ok (.lload_n 0, 1) := by decide +kernel
theorem dX0_timeField_1 : decode cX0_timeField 1 = .ok (.invokestatic 81, 3) := by decide +kernel
theorem dX0_timeField_4 : decode cX0_timeField 4 = .ok (.istore_n 3, 1) := by decide +kernel
theorem dX0_timeField_5 : decode cX0_timeField 5 = .ok (.iload_n 2, 1) := by decide +kernel
theorem dX0_timeField_6 : decode cX0_timeField 6 = .ok (.tableswitch 175 0 13 #[70, 76, 78, 88, 94, 104, 110, 116, 122, 128, 134, 140, 159, 162], 70) := by decide +kernel
theorem dX0_timeField_76 : decode cX0_timeField 76 = .ok (.lload_n 0, 1) := by decide +kernel
theorem dX0_timeField_77 : decode cX0_timeField 77 = .ok (.invokestatic 97, 3) := by decide +kernel
theorem dX0_timeField_80 : decode cX0_timeField 80 = .ok (.i2l, 1) := by decide +kernel
theorem dX0_timeField_81 : decode cX0_timeField 81 = .ok (.lreturn, 1) := by decide +kernel
theorem dX0_timeField_82 : decode cX0_timeField 82 = .ok (.lload_n 0, 1) := by decide +kernel
theorem dX0_timeField_83 : decode cX0_timeField 83 = .ok (.lreturn, 1) := by decide +kernel
theorem dX0_timeField_84 : decode cX0_timeField 84 = .ok (.lload_n 0, 1) := by decide +kernel
theorem dX0_timeField_85 : decode cX0_timeField 85 = .ok (.invokestatic 97, 3) := by decide +kernel
theorem dX0_timeField_88 : decode cX0_timeField 88 = .ok (.sipush 1000, 3) := by decide +kernel
theorem dX0_timeField_91 : decode cX0_timeField 91 = .ok (.idiv, 1) := by decide +kernel
theorem dX0_timeField_92 : decode cX0_timeField 92 = .ok (.i2l, 1) := by decide +kernel
theorem dX0_timeField_93 : decode cX0_timeField 93 = .ok (.lreturn, 1) := by decide +kernel
theorem dX0_timeField_94 : decode cX0_timeField 94 = .ok (.lload_n 0, 1) := by decide +kernel
theorem dX0_timeField_95 : decode cX0_timeField 95 = .ok (.ldc2_w 281, 3) := by decide +kernel
theorem dX0_timeField_98 : decode cX0_timeField 98 = .ok (.ldiv, 1) := by decide +kernel
theorem dX0_timeField_99 : decode cX0_timeField 99 = .ok (.lreturn, 1) := by decide +kernel
theorem dX0_timeField_100 : decode cX0_timeField 100 = .ok (.lload_n 0, 1) := by decide +kernel
theorem dX0_timeField_101 : decode cX0_timeField 101 = .ok (.invokestatic 97, 3) := by decide +kernel
theorem dX0_timeField_104 : decode cX0_timeField 104 = .ok (.ldc_w 293, 3) := by decide +kernel
theorem dX0_timeField_107 : decode cX0_timeField 107 = .ok (.idiv, 1) := by decide +kernel
theorem dX0_timeField_108 : decode cX0_timeField 108 = .ok (.i2l, 1) := by decide +kernel
theorem dX0_timeField_109 : decode cX0_timeField 109 = .ok (.lreturn, 1) := by decide +kernel
theorem dX0_timeField_110 : decode cX0_timeField 110 = .ok (.lload_n 0, 1) := by decide +kernel
theorem dX0_timeField_111 : decode cX0_timeField 111 = .ok (.ldc2_w 283, 3) := by decide +kernel
theorem dX0_timeField_114 : decode cX0_timeField 114 = .ok (.ldiv, 1) := by decide +kernel
theorem dX0_timeField_115 : decode cX0_timeField 115 = .ok (.lreturn, 1) := by decide +kernel
theorem dX0_timeField_116 : decode cX0_timeField 116 = .ok (.lload_n 0, 1) := by decide +kernel
theorem dX0_timeField_117 : decode cX0_timeField 117 = .ok (.invokestatic 92, 3) := by decide +kernel
theorem dX0_timeField_120 : decode cX0_timeField 120 = .ok (.i2l, 1) := by decide +kernel
theorem dX0_timeField_121 : decode cX0_timeField 121 = .ok (.lreturn, 1) := by decide +kernel
theorem dX0_timeField_122 : decode cX0_timeField 122 = .ok (.lload_n 0, 1) := by decide +kernel
theorem dX0_timeField_123 : decode cX0_timeField 123 = .ok (.ldc2_w 95, 3) := by decide +kernel
theorem dX0_timeField_126 : decode cX0_timeField 126 = .ok (.ldiv, 1) := by decide +kernel
theorem dX0_timeField_127 : decode cX0_timeField 127 = .ok (.lreturn, 1) := by decide +kernel
theorem dX0_timeField_128 : decode cX0_timeField 128 = .ok (.lload_n 0, 1) := by decide +kernel
theorem dX0_timeField_129 : decode cX0_timeField 129 = .ok (.invokestatic 87, 3) := by decide +kernel
theorem dX0_timeField_132 : decode cX0_timeField 132 = .ok (.i2l, 1) := by decide +kernel
theorem dX0_timeField_133 : decode cX0_timeField 133 = .ok (.lreturn, 1) := by decide +kernel
theorem dX0_timeField_134 : decode cX0_timeField 134 = .ok (.lload_n 0, 1) := by decide +kernel
theorem dX0_timeField_135 : decode cX0_timeField 135 = .ok (.ldc2_w 90, 3) := by decide +kernel
theorem dX0_timeField_138 : decode cX0_timeField 138 = .ok (.ldiv, 1) := by decide +kernel
theorem dX0_timeField_139 : decode cX0_timeField 139 = .ok (.lreturn, 1) := by decide +kernel
theorem dX0_timeField_140 : decode cX0_timeField 140 = .ok (.iload_n 3, 1) := by decide +kernel
theorem dX0_timeField_141 : decode cX0_timeField 141 = .ok (.bipush 12, 2) := by decide +kernel
theorem dX0_timeField_143 : decode cX0_timeField 143 = .ok (.irem, 1) := by decide +kernel
theorem dX0_timeField_144 : decode cX0_timeField 144 = .ok (.i2l, 1) := by decide +kernel
theorem dX0_timeField_145 : decode cX0_timeField 145 = .ok (.lreturn, 1) := by decide +kernel
theorem dX0_timeField_146 : decode cX0_timeField 146 = .ok (.iload_n 3, 1) := by decide +kernel
theorem dX0_timeField_147 : decode cX0_timeField 147 = .ok (.bipush 12, 2) := by decide +kernel
theorem dX0_timeField_149 : decode cX0_timeField 149 = .ok (.irem, 1) := by decide +kernel
theorem dX0_timeField_150 : decode cX0_timeField 150 = .ok (.ifCond .ne 9, 3) := by decide +kernel
theorem dX0_timeField_153 : decode cX0_timeField 153 = .ok (.ldc2_w 106, 3) := by decide +kernel
theorem dX0_timeField_156 : decode cX0_timeField 156 = .ok (.goto 8, 3) := by decide +kernel
theorem dX0_timeField_159 : decode cX0_timeField 159 = .ok (.iload_n 3, 1) := by decide +kernel
theorem dX0_timeField_160 : decode cX0_timeField 160 = .ok (.bipush 12, 2) := by decide +kernel
theorem dX0_timeField_162 : decode cX0_timeField 162 = .ok (.irem, 1) := by decide +kernel
theorem dX0_timeField_163 : decode cX0_timeField 163 = .ok (.i2l, 1) := by decide +kernel
theorem dX0_timeField_164 : decode cX0_timeField 164 = .ok (.lreturn, 1) := by decide +kernel
theorem dX0_timeField_165 : decode cX0_timeField 165 = .ok (.iload_n 3, 1) := by decide +kernel
theorem dX0_timeField_166 : decode cX0_timeField 166 = .ok (.i2l, 1) := by decide +kernel
theorem dX0_timeField_167 : decode cX0_timeField 167 = .ok (.lreturn, 1) := by decide +kernel
theorem dX0_timeField_168 : decode cX0_timeField 168 = .ok (.iload_n 3, 1) := by decide +kernel
theorem dX0_timeField_169 : decode cX0_timeField 169 = .ok (.ifCond .ne 9, 3) := by decide +kernel
theorem dX0_timeField_172 : decode cX0_timeField 172 = .ok (.ldc2_w 294, 3) := by decide +kernel
theorem dX0_timeField_175 : decode cX0_timeField 175 = .ok (.goto 5, 3) := by decide +kernel
theorem dX0_timeField_178 : decode cX0_timeField 178 = .ok (.iload_n 3, 1) := by decide +kernel
theorem dX0_timeField_179 : decode cX0_timeField 179 = .ok (.i2l, 1) := by decide +kernel
theorem dX0_timeField_180 : decode cX0_timeField 180 = .ok (.lreturn, 1) := by decide +kernel
theorem dX0_timeField_181 : decode cX0_timeField 181 = .ok (.iload_n 3, 1) := by decide +kernel
theorem dX0_timeField_182 : decode cX0_timeField 182 = .ok (.bipush 12, 2) := by decide +kernel
theorem dX0_timeField_184 : decode cX0_timeField 184 = .ok (.if_icmp .ge 7, 3) := by decide +kernel
theorem dX0_timeField_187 : decode cX0_timeField 187 = .ok (.lconst 0, 1) := by decide +kernel
theorem dX0_timeField_188 : decode cX0_timeField 188 = .ok (.goto 4, 3) := by decide +kernel
theorem dX0_timeField_191 : decode cX0_timeField 191 = .ok (.lconst 1, 1) := by decide +kernel
theorem dX0_timeField_192 : decode cX0_timeField 192 = .ok (.lreturn, 1) := by decide +kernel
theorem dX0_dateField_0 : decode cX0_dateField 0 = .ok (.aload_n 0, 1) := by decide +kernel
theorem dX0_dateField_1 : decode cX0_dateField 1 = .ok (.getfield 9, 3) := by decide +kernel
theorem dX0_dateField_4 : decode cX0_dateField 4 = .ok (.iload_n 1, 1) := by decide +kernel
theorem dX0_dateField_5 : decode cX0_dateField 5 = .ok (.iaload, 1) := by decide +kernel
theorem dX0_dateField_6 : decode cX0_dateField 6 = .ok (.istore_n 3, 1) := by decide +kernel
theorem dX0_dateField_7 : decode cX0_dateField 7 = .ok (.iload_n 2, 1) := by decide +kernel
theorem dX0_dateField_8 : decode cX0_dateField 8 = .ok (.tableswitch 186 15 26 #[64, 75, 90, 104, 112, 119, 126, 141, 155, 163, 169, 183], 64) := by decide +kernel
theorem dX0_dateField_72 : decode cX0_dateField 72 = .ok (.aload_n 0, 1) := by decide +kernel
theorem dX0_dateField_73 : decode cX0_dateField 73 = .ok (.getfield 19, 3) := by decide +kernel
theorem dX0_dateField_76 : decode cX0_dateField 76 = .ok (.iload_n 1, 1) := by decide +kernel
theorem dX0_dateField_77 : decode cX0_dateField 77 = .ok (.laload, 1) := by decide +kernel
theorem dX0_dateField_78 : decode cX0_dateField 78 = .ok (.invokestatic 129, 3) := by decide +kernel
theorem dX0_dateField_81 : decode cX0_dateField 81 = .ok (.i2l, 1) := by decide +kernel
theorem dX0_dateField_82 : decode cX0_dateField 82 = .ok (.lreturn, 1) := by decide +kernel
theorem dX0_dateField_83 : decode cX0_dateField 83 = .ok (.aload_n 0, 1) := by decide +kernel
theorem dX0_dateField_84 : decode cX0_dateField 84 = .ok (.getfield 16, 3) := by decide +kernel
theorem dX0_dateField_87 : decode cX0_dateField 87 = .ok (.iload_n 1, 1) := by decide +kernel
theorem dX0_dateField_88 : decode cX0_dateField 88 = .ok (.iaload, 1) := by decide +kernel
theorem dX0_dateField_89 : decode cX0_dateField 89 = .ok (.iconst 1, 1) := by decide +kernel
theorem dX0_dateField_90 : decode cX0_dateField 90 = .ok (.isub, 1) := by decide +kernel
theorem dX0_dateField_91 : decode cX0_dateField 91 = .ok (.bipush 7, 2) := by decide +kernel
theorem dX0_dateField_93 : decode cX0_dateField 93 = .ok (.irem, 1) := by decide +kernel
theorem dX0_dateField_94 : decode cX0_dateField 94 = .ok (.iconst 1, 1) := by decide +kernel
theorem dX0_dateField_95 : decode cX0_dateField 95 = .ok (.iadd, 1) := by decide +kernel
theorem dX0_dateField_96 : decode cX0_dateField 96 = .ok (.i2l, 1) := by decide +kernel
theorem dX0_dateField_97 : decode cX0_dateField 97 = .ok (.lreturn, 1) := by decide +kernel
theorem dX0_dateField_98 : decode cX0_dateField 98 = .ok (.aload_n 0, 1) := by decide +kernel
theorem dX0_dateField_99 : decode cX0_dateField 99 = .ok (.iload_n 1, 1) := by decide +kernel
theorem dX0_dateField_100 : decode cX0_dateField 100 = .ok (.invokevirtual 126, 3) := by decide +kernel
theorem dX0_dateField_103 : decode cX0_dateField 103 = .ok (.iconst 1, 1) := by decide +kernel
theorem dX0_dateField_104 : decode cX0_dateField 104 = .ok (.isub, 1) := by decide +kernel
theorem dX0_dateField_105 : decode cX0_dateField 105 = .ok (.bipush 7, 2) := by decide +kernel
theorem dX0_dateField_107 : decode cX0_dateField 107 = .ok (.irem, 1) := by decide +kernel
theorem dX0_dateField_108 : decode cX0_dateField 108 = .ok (.iconst 1, 1) := by decide +kernel
theorem dX0_dateField_109 : decode cX0_dateField 109 = .ok (.iadd, 1) := by decide +kernel
theorem dX0_dateField_110 : decode cX0_dateField 110 = .ok (.i2l, 1) := by decide +kernel
theorem dX0_dateField_111 : decode cX0_dateField 111 = .ok (.lreturn, 1) := by decide +kernel
theorem dX0_dateField_112 : decode cX0_dateField 112 = .ok (.aload_n 0, 1) := by decide +kernel
theorem dX0_dateField_113 : decode cX0_dateField 113 = .ok (.getfield 16, 3) := by decide +kernel
theorem dX0_dateField_116 : decode cX0_dateField 116 = .ok (.iload_n 1, 1) := by decide +kernel
theorem dX0_dateField_117 : decode cX0_dateField 117 = .ok (.iaload, 1) := by decide +kernel
theorem dX0_dateField_118 : decode cX0_dateField 118 = .ok (.i2l, 1) := by decide +kernel
theorem dX0_dateField_119 : decode cX0_dateField 119 = .ok (.lreturn, 1) := by decide +kernel
theorem dX0_dateField_120 : decode cX0_dateField 120 = .ok (.aload_n 0, 1) := by decide +kernel
theorem dX0_dateField_121 : decode cX0_dateField 121 = .ok (.iload_n 1, 1) := by decide +kernel
theorem dX0_dateField_122 : decode cX0_dateField 122 = .ok (.invokevirtual 126, 3) := by decide +kernel
theorem dX0_dateField_125 : decode cX0_dateField 125 = .ok (.i2l, 1) := by decide +kernel
theorem dX0_dateField_126 : decode cX0_dateField 126 = .ok (.lreturn, 1) := by decide +kernel
theorem dX0_dateField_127 : decode cX0_dateField 127 = .ok (.aload_n 0, 1) := by decide +kernel
theorem dX0_dateField_128 : decode cX0_dateField 128 = .ok (.getfield 19, 3) := by decide +kernel
theorem dX0_dateField_131 : decode cX0_dateField 131 = .ok (.iload_n 1, 1) := by decide +kernel
theorem dX0_dateField_132 : decode cX0_dateField 132 = .ok (.laload, 1) := by decide +kernel
theorem dX0_dateField_133 : decode cX0_dateField 133 = .ok (.lreturn, 1) := by decide +kernel
theorem dX0_dateField_134 : decode cX0_dateField 134 = .ok (.aload_n 0, 1) := by decide +kernel
theorem dX0_dateField_135 : decode cX0_dateField 135 = .ok (.getfield 16, 3) := by decide +kernel
theorem dX0_dateField_138 : decode cX0_dateField 138 = .ok (.iload_n 1, 1) := by decide +kernel
theorem dX0_dateField_139 : decode cX0_dateField 139 = .ok (.iaload, 1) := by decide +kernel
theorem dX0_dateField_140 : decode cX0_dateField 140 = .ok (.iconst 1, 1) := by decide +kernel
theorem dX0_dateField_141 : decode cX0_dateField 141 = .ok (.isub, 1) := by decide +kernel
theorem dX0_dateField_142 : decode cX0_dateField 142 = .ok (.bipush 7, 2) := by decide +kernel
theorem dX0_dateField_144 : decode cX0_dateField 144 = .ok (.idiv, 1) := by decide +kernel
theorem dX0_dateField_145 : decode cX0_dateField 145 = .ok (.iconst 1, 1) := by decide +kernel
theorem dX0_dateField_146 : decode cX0_dateField 146 = .ok (.iadd, 1) := by decide +kernel
theorem dX0_dateField_147 : decode cX0_dateField 147 = .ok (.i2l, 1) := by decide +kernel
theorem dX0_dateField_148 : decode cX0_dateField 148 = .ok (.lreturn, 1) := by decide +kernel
theorem dX0_dateField_149 : decode cX0_dateField 149 = .ok (.aload_n 0, 1) := by decide +kernel
theorem dX0_dateField_150 : decode cX0_dateField 150 = .ok (.iload_n 1, 1) := by decide +kernel
theorem dX0_dateField_151 : decode cX0_dateField 151 = .ok (.invokevirtual 126, 3) := by decide +kernel
theorem dX0_dateField_154 : decode cX0_dateField 154 = .ok (.iconst 1, 1) := by decide +kernel
theorem dX0_dateField_155 : decode cX0_dateField 155 = .ok (.isub, 1) := by decide +kernel
theorem dX0_dateField_156 : decode cX0_dateField 156 = .ok (.bipush 7, 2) := by decide +kernel
theorem dX0_dateField_158 : decode cX0_dateField 158 = .ok (.idiv, 1) := by decide +kernel
theorem dX0_dateField_159 : decode cX0_dateField 159 = .ok (.iconst 1, 1) := by decide +kernel
theorem dX0_dateField_160 : decode cX0_dateField 160 = .ok (.iadd, 1) := by decide +kernel
theorem dX0_dateField_161 : decode cX0_dateField 161 = .ok (.i2l, 1) := by decide +kernel
theorem dX0_dateField_162 : decode cX0_dateField 162 = .ok (.lreturn, 1) := by decide +kernel
theorem dX0_dateField_163 : decode cX0_dateField 163 = .ok (.aload_n 0, 1) := by decide +kernel
theorem dX0_dateField_164 : decode cX0_dateField 164 = .ok (.getfield 13, 3) := by decide +kernel
theorem dX0_dateField_167 : decode cX0_dateField 167 = .ok (.iload_n 1, 1) := by decide +kernel
theorem dX0_dateField_168 : decode cX0_dateField 168 = .ok (.iaload, 1) := by decide +kernel
theorem dX0_dateField_169 : decode cX0_dateField 169 = .ok (.i2l, 1) := by decide +kernel
theorem dX0_dateField_170 : decode cX0_dateField 170 = .ok (.lreturn, 1) := by decide +kernel
theorem dX0_dateField_171 : decode cX0_dateField 171 = .ok (.aload_n 0, 1) := by decide +kernel
theorem dX0_dateField_172 : decode cX0_dateField 172 = .ok (.iload_n 1, 1) := by decide +kernel
theorem dX0_dateField_173 : decode cX0_dateField 173 = .ok (.invokevirtual 239, 3) := by decide +kernel
theorem dX0_dateField_176 : decode cX0_dateField 176 = .ok (.lreturn, 1) := by decide +kernel
theorem dX0_dateField_177 : decode cX0_dateField 177 = .ok (.iload_n 3, 1) := by decide +kernel
theorem dX0_dateField_178 : decode cX0_dateField 178 = .ok (.ifCond .le 8, 3) := by decide +kernel
theorem dX0_dateField_181 : decode cX0_dateField 181 = .ok (.iload_n 3, 1) := by decide +kernel
theorem dX0_dateField_182 : decode cX0_dateField 182 = .ok (.i2l, 1) := by decide +kernel
theorem dX0_dateField_183 : decode cX0_dateField 183 = .ok (.goto 7, 3) := by decide +kernel
theorem dX0_dateField_186 : decode cX0_dateField 186 = .ok (.iconst 1, 1) := by decide +kernel
theorem dX0_dateField_187 : decode cX0_dateField 187 = .ok (.iload_n 3, 1) := by decide +kernel
theorem dX0_dateField_188 : decode cX0_dateField 188 = .ok (.isub, 1) := by decide +kernel
theorem dX0_dateField_189 : decode cX0_dateField 189 = .ok (.i2l, 1) := by decide +kernel
theorem dX0_dateField_190 : decode cX0_dateField 190 = .ok (.lreturn, 1) := by decide +kernel
theorem dX0_dateField_191 : decode cX0_dateField 191 = .ok (.iload_n 3, 1) := by decide +kernel
theorem dX0_dateField_192 : decode cX0_dateField 192 = .ok (.i2l, 1) := by decide +kernel
theorem dX0_dateField_193 : decode cX0_dateField 193 = .ok (.lreturn, 1) := by decide +kernel
theorem dX0_dateField_194 : decode cX0_dateField 194 = .ok (.iload_n 3, 1) := by decide +kernel
theorem dX0_dateField_195 : decode cX0_dateField 195 = .ok (.ifCond .le 7, 3) := by decide +kernel
theorem dX0_dateField_198 : decode cX0_dateField 198 = .ok (.lconst 1, 1) := by decide +kernel
theorem dX0_dateField_199 : decode cX0_dateField 199 = .ok (.goto 4, 3) := by decide +kernel
theorem dX0_dateField_202 : decode cX0_dateField 202 = .ok (.lconst 0, 1) := by decide +kernel
theorem dX0_dateField_203 : decode cX0_dateField 203 = .ok (.lreturn, 1) := by decide +kernel
theorem dX0_order_0 : decode cX0_order 0 = .ok (.aload_n 0, 1) := by decide +kernel
theorem dX0_order_1 : decode cX0_order 1 = .ok (.getfield 19, 3) := by decide +kernel
theorem dX0_order_4 : decode cX0_order 4 = .ok (.iload_n 1, 1) := by decide +kernel
theorem dX0_order_5 : decode cX0_order 5 = .ok (.laload, 1) := by decide +kernel
theorem dX0_order_6 : decode cX0_order 6 = .ok (.aload_n 0, 1) := by decide +kernel
theorem dX0_order_7 : decode cX0_order 7 = .ok (.getfield 19, 3) := by decide +kernel
theorem dX0_order_10 : decode cX0_order 10 = .ok (.iload_n 2, 1) := by decide +kernel
theorem dX0_order_11 : decode cX0_order 11 = .ok (.laload, 1) := by decide +kernel
theorem dX0_order_12 : decode cX0_order 12 = .ok (.lcmp, 1) := by decide +kernel
theorem dX0_order_13 : decode cX0_order 13 = .ok (.ifCond .eq 25, 3) := by decide +kernel
theorem dX0_order_16 : decode cX0_order 16 = .ok (.aload_n 0, 1) := by decide +kernel
theorem dX0_order_17 : decode cX0_order 17 = .ok (.getfield 19, 3) := by decide +kernel
theorem dX0_order_20 : decode cX0_order 20 = .ok (.iload_n 1, 1) := by decide +kernel
theorem dX0_order_21 : decode cX0_order 21 = .ok (.laload, 1) := by decide +kernel
theorem dX0_order_22 : decode cX0_order 22 = .ok (.aload_n 0, 1) := by decide +kernel
theorem dX0_order_23 : decode cX0_order 23 = .ok (.getfield 19, 3) := by decide +kernel
theorem dX0_order_26 : decode cX0_order 26 = .ok (.iload_n 2, 1) := by decide +kernel
theorem dX0_order_27 : decode cX0_order 27 = .ok (.laload, 1) := by decide +kernel
theorem dX0_order_28 : decode cX0_order 28 = .ok (.lcmp, 1) := by decide +kernel
theorem dX0_order_29 : decode cX0_order 29 = .ok (.ifCond .ge 7, 3) := by decide +kernel
theorem dX0_order_32 : decode cX0_order 32 = .ok (.iconst (-1), 1) := by decide +kernel
theorem dX0_order_33 : decode cX0_order 33 = .ok (.goto 4, 3) := by decide +kernel
theorem dX0_order_36 : decode cX0_order 36 = .ok (.iconst 1, 1) := by decide +kernel
theorem dX0_order_37 : decode cX0_order 37 = .ok (.ireturn, 1) := by decide +kernel
theorem dX0_order_38 : decode cX0_order 38 = .ok (.aload_n 0, 1) := by decide +kernel
theorem dX0_order_39 : decode cX0_order 39 = .ok (.getfield 23, 3) := by decide +kernel
theorem dX0_order_42 : decode cX0_order 42 = .ok (.iload_n 1, 1) := by decide +kernel
theorem dX0_order_43 : decode cX0_order 43 = .ok (.laload, 1) := by decide +kernel
theorem dX0_order_44 : decode cX0_order 44 = .ok (.aload_n 0, 1) := by decide +kernel
theorem dX0_order_45 : decode cX0_order 45 = .ok (.getfield 23, 3) := by decide +kernel
theorem dX0_order_48 : decode cX0_order 48 = .ok (.iload_n 2, 1) := by decide +kernel
theorem dX0_order_49 : decode cX0_order 49 = .ok (.laload, 1) := by decide +kernel
theorem dX0_order_50 : decode cX0_order 50 = .ok (.lcmp, 1) := by decide +kernel
theorem dX0_order_51 : decode cX0_order 51 = .ok (.ifCond .eq 25, 3) := by decide +kernel
theorem dX0_order_54 : decode cX0_order 54 = .ok (.aload_n 0, 1) := by decide +kernel
theorem dX0_order_55 : decode cX0_order 55 = .ok (.getfield 23, 3) := by decide +kernel
theorem dX0_order_58 : decode cX0_order 58 = .ok (.iload_n 1, 1) := by decide +kernel
theorem dX0_order_59 : decode cX0_order 59 = .ok (.laload, 1) := by decide +kernel
theorem dX0_order_60 : decode cX0_order 60 = .ok (.aload_n 0, 1) := by decide +kernel
theorem dX0_order_61 : decode cX0_order 61 = .ok (.getfield 23, 3) := by decide +kernel
theorem dX0_order_64 : decode cX0_order 64 = .ok (.iload_n 2, 1) := by decide +kernel
theorem dX0_order_65 : decode cX0_order 65 = .ok (.laload, 1) := by decide +kernel
theorem dX0_order_66 : decode cX0_order 66 = .ok (.lcmp, 1) := by decide +kernel
theorem dX0_order_67 : decode cX0_order 67 = .ok (.ifCond .ge 7, 3) := by decide +kernel
theorem dX0_order_70 : decode cX0_order 70 = .ok (.iconst (-1), 1) := by decide +kernel
theorem dX0_order_71 : decode cX0_order 71 = .ok (.goto 4, 3) := by decide +kernel
theorem dX0_order_74 : decode cX0_order 74 = .ok (.iconst 1, 1) := by decide +kernel
theorem dX0_order_75 : decode cX0_order 75 = .ok (.ireturn, 1) := by decide +kernel
theorem dX0_order_76 : decode cX0_order 76 = .ok (.iconst 0, 1) := by decide +kernel
theorem dX0_order_77 : decode cX0_order 77 = .ok (.ireturn, 1) := by decide +kernel
theorem dX0_isSameLine_0 : decode cX0_isSameLine 0 = .ok (.aload_n 0, 1) := by decide +kernel
theorem dX0_isSameLine_1 : decode cX0_isSameLine 1 = .ok (.getfield 19, 3) := by decide +kernel
theorem dX0_isSameLine_4 : decode cX0_isSameLine 4 = .ok (.iload_n 1, 1) := by decide +kernel
theorem dX0_isSameLine_5 : decode cX0_isSameLine 5 = .ok (.laload, 1) := by decide +kernel
theorem dX0_isSameLine_6 : decode cX0_isSameLine 6 = .ok (.aload_n 0, 1) := by decide +kernel
theorem dX0_isSameLine_7 : decode cX0_isSameLine 7 = .ok (.getfield 19, 3) := by decide +kernel
theorem dX0_isSameLine_10 : decode cX0_isSameLine 10 = .ok (.iload_n 2, 1) := by decide +kernel
theorem dX0_isSameLine_11 : decode cX0_isSameLine 11 = .ok (.laload, 1) := by decide +kernel
theorem dX0_isSameLine_12 : decode cX0_isSameLine 12 = .ok (.lcmp, 1) := by decide +kernel
theorem dX0_isSameLine_13 : decode cX0_isSameLine 13 = .ok (.ifCond .ne 23, 3) := by decide +kernel
theorem dX0_isSameLine_16 : decode cX0_isSameLine 16 = .ok (.aload_n 0, 1) := by decide +kernel
theorem dX0_isSameLine_17 : decode cX0_isSameLine 17 = .ok (.getfield 23, 3) := by decide +kernel
theorem dX0_isSameLine_20 : decode cX0_isSameLine 20 = .ok (.iload_n 1, 1) := by decide +kernel
theorem dX0_isSameLine_21 : decode cX0_isSameLine 21 = .ok (.laload, 1) := by decide +kernel
theorem dX0_isSameLine_22 : decode cX0_isSameLine 22 = .ok (.aload_n 0, 1) := by decide +kernel
theorem dX0_isSameLine_23 : decode cX0_isSameLine 23 = .ok (.getfield 23, 3) := by decide +kernel
theorem dX0_isSameLine_26 : decode cX0_isSameLine 26 = .ok (.iload_n 2, 1) := by decide +kernel
theorem dX0_isSameLine_27 : decode cX0_isSameLine 27 = .ok (.laload, 1) := by decide +kernel
theorem dX0_isSameLine_28 : decode cX0_isSameLine 28 = .ok (.lcmp, 1) := by decide +kernel
theorem dX0_isSameLine_29 : decode cX0_isSameLine 29 = .ok (.ifCond .ne 7, 3) := by decide +kernel
theorem dX0_isSameLine_32 : decode cX0_isSameLine 32 = .ok (.iconst 1, 1) := by decide +kernel
theorem dX0_isSameLine_33 : decode cX0_isSameLine 33 = .ok (.goto 4, 3) := by decide +kernel
theorem dX0_isSameLine_36 : decode cX0_isSameLine 36 = .ok (.iconst 0, 1) := by decide +kernel
theorem dX0_isSameLine_37 : decode cX0_isSameLine 37 = .ok (.ireturn, 1) := by decide +kernel
theorem dX0_gapText_0 : decode cX0_gapText 0 = .ok (.aload_n 0, 1) := by decide +kernel
theorem dX0_gapText_1 : decode cX0_gapText 1 = .ok (.iload_n 1, 1) := by decide +kernel
theorem dX0_gapText_2 : decode cX0_gapText 2 = .ok (.iload_n 2, 1) := by decide +kernel
theorem dX0_gapText_3 : decode cX0_gapText 3 = .ok (.iload_n 3, 1) := by decide +kernel
theorem dX0_gapText_4 : decode cX0_gapText 4 = .ok (.invokevirtual 296, 3) := by decide +kernel
theorem dX0_gapText_7 : decode cX0_gapText 7 = .ok (.ifCond .eq 12, 3) := by decide +kernel
theorem dX0_gapText_10 : decode cX0_gapText 10 = .ok (.aload_n 0, 1) := by decide +kernel
theorem dX0_gapText_11 : decode cX0_gapText 11 = .ok (.invokevirtual 77, 3) := by decide +kernel
theorem dX0_gapText_14 : decode cX0_gapText 14 = .ok (.pop, 1) := by decide +kernel
theorem dX0_gapText_15 : decode cX0_gapText 15 = .ok (.ldc_w 300, 3) := by decide +kernel
theorem dX0_gapText_18 : decode cX0_gapText 18 = .ok (.areturn, 1) := by decide +kernel
theorem dX0_gapText_19 : decode cX0_gapText 19 = .ok (.iload_n 3, 1) := by decide +kernel
theorem dX0_gapText_20 : decode cX0_gapText 20 = .ok (.bipush 9, 2) := by decide +kernel
theorem dX0_gapText_22 : decode cX0_gapText 22 = .ok (.if_icmp .ge 14, 3) := by decide +kernel
theorem dX0_gapText_25 : decode cX0_gapText 25 = .ok (.aload_n 0, 1) := by decide +kernel
theorem dX0_gapText_26 : decode cX0_gapText 26 = .ok (.iload_n 1, 1) := by decide +kernel
theorem dX0_gapText_27 : decode cX0_gapText 27 = .ok (.iload_n 2, 1) := by decide +kernel
theorem dX0_gapText_28 : decode cX0_gapText 28 = .ok (.iload_n 3, 1) := by decide +kernel
theorem dX0_gapText_29 : decode cX0_gapText 29 = .ok (.invokevirtual 189, 3) := by decide +kernel
theorem dX0_gapText_32 : decode cX0_gapText 32 = .ok (.invokestatic 136, 3) := by decide +kernel
theorem dX0_gapText_35 : decode cX0_gapText 35 = .ok (.areturn, 1) := by decide +kernel
theorem dX0_gapText_36 : decode cX0_gapText 36 = .ok (.aload_n 0, 1) := by decide +kernel
theorem dX0_gapText_37 : decode cX0_gapText 37 = .ok (.iload_n 1, 1) := by decide +kernel
theorem dX0_gapText_38 : decode cX0_gapText 38 = .ok (.iload_n 2, 1) := by decide +kernel
theorem dX0_gapText_39 : decode cX0_gapText 39 = .ok (.invokevirtual 302, 3) := by decide +kernel
theorem dX0_gapText_42 : decode cX0_gapText 42 = .ok (.iload_n 3, 1) := by decide +kernel
theorem dX0_gapText_43 : decode cX0_gapText 43 = .ok (.invokestatic 123, 3) := by decide +kernel
theorem dX0_gapText_46 : decode cX0_gapText 46 = .ok (.invokestatic 259, 3) := by decide +kernel
theorem dX0_gapText_49 : decode cX0_gapText 49 = .ok (.invokestatic 136, 3) := by decide +kernel
theorem dX0_gapText_52 : decode cX0_gapText 52 = .ok (.areturn, 1) := by decide +kernel
theorem dX0_isGapRefused_0 : decode cX0_isGapRefused 0 = .ok (.iload_n 3, 1) := by decide +kernel
theorem dX0_isGapRefused_1 : decode cX0_isGapRefused 1 = .ok (.ifCond .ne 32, 3) := by decide +kernel
theorem dX0_isGapRefused_4 : decode cX0_isGapRefused 4 = .ok (.aload_n 0, 1) := by decide +kernel
theorem dX0_isGapRefused_5 : decode cX0_isGapRefused 5 = .ok (.getfield 19, 3) := by decide +kernel
theorem dX0_isGapRefused_8 : decode cX0_isGapRefused 8 = .ok (.iload_n 2, 1) := by decide +kernel
theorem dX0_isGapRefused_9 : decode cX0_isGapRefused 9 = .ok (.laload, 1) := by decide +kernel
theorem dX0_isGapRefused_10 : decode cX0_isGapRefused 10 = .ok (.aload_n 0, 1) := by decide +kernel
theorem dX0_isGapRefused_11 : decode cX0_isGapRefused 11 = .ok (.getfield 19, 3) := by decide +kernel
theorem dX0_isGapRefused_14 : decode cX0_isGapRefused 14 = .ok (.iload_n 1, 1) := by decide +kernel
theorem dX0_isGapRefused_15 : decode cX0_isGapRefused 15 = .ok (.laload, 1) := by decide +kernel
theorem dX0_isGapRefused_16 : decode cX0_isGapRefused 16 = .ok (.lsub, 1) := by decide +kernel
theorem dX0_isGapRefused_17 : decode cX0_isGapRefused 17 = .ok (.invokestatic 305, 3) := by decide +kernel
theorem dX0_isGapRefused_20 : decode cX0_isGapRefused 20 = .ok (.ldc2_w 309, 3) := by decide +kernel
theorem dX0_isGapRefused_23 : decode cX0_isGapRefused 23 = .ok (.lcmp, 1) := by decide +kernel
theorem dX0_isGapRefused_24 : decode cX0_isGapRefused 24 = .ok (.ifCond .le 7, 3) := by decide +kernel
theorem dX0_isGapRefused_27 : decode cX0_isGapRefused 27 = .ok (.iconst 1, 1) := by decide +kernel
theorem dX0_isGapRefused_28 : decode cX0_isGapRefused 28 = .ok (.goto 4, 3) := by decide +kernel
theorem dX0_isGapRefused_31 : decode cX0_isGapRefused 31 = .ok (.iconst 0, 1) := by decide +kernel
theorem dX0_isGapRefused_32 : decode cX0_isGapRefused 32 = .ok (.ireturn, 1) := by decide +kernel
theorem dX0_isGapRefused_33 : decode cX0_isGapRefused 33 = .ok (.iload_n 3, 1) := by decide +kernel
theorem dX0_isGapRefused_34 : decode cX0_isGapRefused 34 = .ok (.bipush 9, 2) := by decide +kernel
theorem dX0_isGapRefused_36 : decode cX0_isGapRefused 36 = .ok (.if_icmp .lt 29, 3) := by decide +kernel
theorem dX0_isGapRefused_39 : decode cX0_isGapRefused 39 = .ok (.aload_n 0, 1) := by decide +kernel
theorem dX0_isGapRefused_40 : decode cX0_isGapRefused 40 = .ok (.getfield 16, 3) := by decide +kernel
theorem dX0_isGapRefused_43 : decode cX0_isGapRefused 43 = .ok (.iload_n 1, 1) := by decide +kernel
theorem dX0_isGapRefused_44 : decode cX0_isGapRefused 44 = .ok (.iaload, 1) := by decide +kernel
theorem dX0_isGapRefused_45 : decode cX0_isGapRefused 45 = .ok (.bipush 28, 2) := by decide +kernel
theorem dX0_isGapRefused_47 : decode cX0_isGapRefused 47 = .ok (.if_icmp .gt 14, 3) := by decide +kernel
theorem dX0_isGapRefused_50 : decode cX0_isGapRefused 50 = .ok (.aload_n 0, 1) := by decide +kernel
theorem dX0_isGapRefused_51 : decode cX0_isGapRefused 51 = .ok (.getfield 16, 3) := by decide +kernel
theorem dX0_isGapRefused_54 : decode cX0_isGapRefused 54 = .ok (.iload_n 2, 1) := by decide +kernel
theorem dX0_isGapRefused_55 : decode cX0_isGapRefused 55 = .ok (.iaload, 1) := by decide +kernel
theorem dX0_isGapRefused_56 : decode cX0_isGapRefused 56 = .ok (.bipush 28, 2) := by decide +kernel
theorem dX0_isGapRefused_58 : decode cX0_isGapRefused 58 = .ok (.if_icmp .le 7, 3) := by decide +kernel
theorem dX0_isGapRefused_61 : decode cX0_isGapRefused 61 = .ok (.iconst 1, 1) := by decide +kernel
theorem dX0_isGapRefused_62 : decode cX0_isGapRefused 62 = .ok (.goto 4, 3) := by decide +kernel
theorem dX0_isGapRefused_65 : decode cX0_isGapRefused 65 = .ok (.iconst 0, 1) := by decide +kernel
theorem dX0_isGapRefused_66 : decode cX0_isGapRefused 66 = .ok (.ireturn, 1) := by decide +kernel
theorem dX0_gapInUnits_0 : decode cX0_gapInUnits 0 = .ok (.aload_n 0, 1) := by decide +kernel
theorem dX0_gapInUnits_1 : decode cX0_gapInUnits 1 = .ok (.getfield 19, 3) := by decide +kernel
theorem dX0_gapInUnits_4 : decode cX0_gapInUnits 4 = .ok (.iload_n 2, 1) := by decide +kernel
theorem dX0_gapInUnits_5 : decode cX0_gapInUnits 5 = .ok (.laload, 1) := by decide +kernel
theorem dX0_gapInUnits_6 : decode cX0_gapInUnits 6 = .ok (.aload_n 0, 1) := by decide +kernel
theorem dX0_gapInUnits_7 : decode cX0_gapInUnits 7 = .ok (.getfield 19, 3) := by decide +kernel
theorem dX0_gapInUnits_10 : decode cX0_gapInUnits 10 = .ok (.iload_n 1, 1) := by decide +kernel
theorem dX0_gapInUnits_11 : decode cX0_gapInUnits 11 = .ok (.laload, 1) := by decide +kernel
theorem dX0_gapInUnits_12 : decode cX0_gapInUnits 12 = .ok (.lsub, 1) := by decide +kernel
theorem dX0_gapInUnits_13 : decode cX0_gapInUnits 13 = .ok (.lstore 4, 2) := by decide +kernel
theorem dX0_gapInUnits_15 : decode cX0_gapInUnits 15 = .ok (.aload_n 0, 1) := by decide +kernel
theorem dX0_gapInUnits_16 : decode cX0_gapInUnits 16 = .ok (.getfield 23, 3) := by decide +kernel
theorem dX0_gapInUnits_19 : decode cX0_gapInUnits 19 = .ok (.iload_n 2, 1) := by decide +kernel
theorem dX0_gapInUnits_20 : decode cX0_gapInUnits 20 = .ok (.laload, 1) := by decide +kernel
theorem dX0_gapInUnits_21 : decode cX0_gapInUnits 21 = .ok (.aload_n 0, 1) := by decide +kernel
theorem dX0_gapInUnits_22 : decode cX0_gapInUnits 22 = .ok (.getfield 23, 3) := by decide +kernel
theorem dX0_gapInUnits_25 : decode cX0_gapInUnits 25 = .ok (.iload_n 1, 1) := by decide +kernel
theorem dX0_gapInUnits_26 : decode cX0_gapInUnits 26 = .ok (.laload, 1) := by decide +kernel
theorem dX0_gapInUnits_27 : decode cX0_gapInUnits 27 = .ok (.lsub, 1) := by decide +kernel
theorem dX0_gapInUnits_28 : decode cX0_gapInUnits 28 = .ok (.lstore 6, 2) := by decide +kernel
theorem dX0_gapInUnits_30 : decode cX0_gapInUnits 30 = .ok (.lload 4, 2) := by decide +kernel
theorem dX0_gapInUnits_32 : decode cX0_gapInUnits 32 = .ok (.lconst 0, 1) := by decide +kernel
theorem dX0_gapInUnits_33 : decode cX0_gapInUnits 33 = .ok (.lcmp, 1) := by decide +kernel
theorem dX0_gapInUnits_34 : decode cX0_gapInUnits 34 = .ok (.ifCond .le 27, 3) := by decide +kernel
theorem dX0_gapInUnits_37 : decode cX0_gapInUnits 37 = .ok (.lload 6, 2) := by decide +kernel
theorem dX0_gapInUnits_39 : decode cX0_gapInUnits 39 = .ok (.lconst 0, 1) := by decide +kernel
theorem dX0_gapInUnits_40 : decode cX0_gapInUnits 40 = .ok (.lcmp, 1) := by decide +kernel
theorem dX0_gapInUnits_41 : decode cX0_gapInUnits 41 = .ok (.ifCond .ge 20, 3) := by decide +kernel
theorem dX0_gapInUnits_44 : decode cX0_gapInUnits 44 = .ok (.lload 4, 2) := by decide +kernel
theorem dX0_gapInUnits_46 : decode cX0_gapInUnits 46 = .ok (.lconst 1, 1) := by decide +kernel
theorem dX0_gapInUnits_47 : decode cX0_gapInUnits 47 = .ok (.lsub, 1) := by decide +kernel
theorem dX0_gapInUnits_48 : decode cX0_gapInUnits 48 = .ok (.lstore 4, 2) := by decide +kernel
theorem dX0_gapInUnits_50 : decode cX0_gapInUnits 50 = .ok (.lload 6, 2) := by decide +kernel
theorem dX0_gapInUnits_52 : decode cX0_gapInUnits 52 = .ok (.ldc2_w 257, 3) := by decide +kernel
theorem dX0_gapInUnits_55 : decode cX0_gapInUnits 55 = .ok (.ladd, 1) := by decide +kernel
theorem dX0_gapInUnits_56 : decode cX0_gapInUnits 56 = .ok (.lstore 6, 2) := by decide +kernel
theorem dX0_gapInUnits_58 : decode cX0_gapInUnits 58 = .ok (.goto 31, 3) := by decide +kernel
theorem dX0_gapInUnits_61 : decode cX0_gapInUnits 61 = .ok (.lload 4, 2) := by decide +kernel
theorem dX0_gapInUnits_63 : decode cX0_gapInUnits 63 = .ok (.lconst 0, 1) := by decide +kernel
theorem dX0_gapInUnits_64 : decode cX0_gapInUnits 64 = .ok (.lcmp, 1) := by decide +kernel
theorem dX0_gapInUnits_65 : decode cX0_gapInUnits 65 = .ok (.ifCond .ge 24, 3) := by decide +kernel
theorem dX0_gapInUnits_68 : decode cX0_gapInUnits 68 = .ok (.lload 6, 2) := by decide +kernel
theorem dX0_gapInUnits_70 : decode cX0_gapInUnits 70 = .ok (.lconst 0, 1) := by decide +kernel
theorem dX0_gapInUnits_71 : decode cX0_gapInUnits 71 = .ok (.lcmp, 1) := by decide +kernel
theorem dX0_gapInUnits_72 : decode cX0_gapInUnits 72 = .ok (.ifCond .le 17, 3) := by decide +kernel
theorem dX0_gapInUnits_75 : decode cX0_gapInUnits 75 = .ok (.lload 4, 2) := by decide +kernel
theorem dX0_gapInUnits_77 : decode cX0_gapInUnits 77 = .ok (.lconst 1, 1) := by decide +kernel
theorem dX0_gapInUnits_78 : decode cX0_gapInUnits 78 = .ok (.ladd, 1) := by decide +kernel
theorem dX0_gapInUnits_79 : decode cX0_gapInUnits 79 = .ok (.lstore 4, 2) := by decide +kernel
theorem dX0_gapInUnits_81 : decode cX0_gapInUnits 81 = .ok (.lload 6, 2) := by decide +kernel
theorem dX0_gapInUnits_83 : decode cX0_gapInUnits 83 = .ok (.ldc2_w 257, 3) := by decide +kernel
theorem dX0_gapInUnits_86 : decode cX0_gapInUnits 86 = .ok (.lsub, 1) := by decide +kernel
theorem dX0_gapInUnits_87 : decode cX0_gapInUnits 87 = .ok (.lstore 6, 2) := by decide +kernel
theorem dX0_gapInUnits_89 : decode cX0_gapInUnits 89 = .ok (.iload_n 3, 1) := by decide +kernel
theorem dX0_gapInUnits_90 : decode cX0_gapInUnits 90 = .ok (.bipush 8, 2) := by decide +kernel
theorem dX0_gapInUnits_92 : decode cX0_gapInUnits 92 = .ok (.if_icmp .ne 10, 3) := by decide +kernel
theorem dX0_gapInUnits_95 : decode cX0_gapInUnits 95 = .ok (.lload 4, 2) := by decide +kernel
theorem dX0_gapInUnits_97 : decode cX0_gapInUnits 97 = .ok (.ldc2_w 252, 3) := by decide +kernel
theorem dX0_gapInUnits_100 : decode cX0_gapInUnits 100 = .ok (.ldiv, 1) := by decide +kernel
theorem dX0_gapInUnits_101 : decode cX0_gapInUnits 101 = .ok (.lreturn, 1) := by decide +kernel
theorem dX0_gapInUnits_102 : decode cX0_gapInUnits 102 = .ok (.iload_n 3, 1) := by decide +kernel
theorem dX0_gapInUnits_103 : decode cX0_gapInUnits 103 = .ok (.invokestatic 254, 3) := by decide +kernel
theorem dX0_gapInUnits_106 : decode cX0_gapInUnits 106 = .ok (.lstore 8, 2) := by decide +kernel
theorem dX0_gapInUnits_108 : decode cX0_gapInUnits 108 = .ok (.lload 4, 2) := by decide +kernel
theorem dX0_gapInUnits_110 : decode cX0_gapInUnits 110 = .ok (.ldc2_w 257, 3) := by decide +kernel
theorem dX0_gapInUnits_113 : decode cX0_gapInUnits 113 = .ok (.lload 8, 2) := by decide +kernel
theorem dX0_gapInUnits_115 : decode cX0_gapInUnits 115 = .ok (.invokestatic 259, 3) := by decide +kernel
theorem dX0_gapInUnits_118 : decode cX0_gapInUnits 118 = .ok (.lmul, 1) := by decide +kernel
theorem dX0_gapInUnits_119 : decode cX0_gapInUnits 119 = .ok (.lload 6, 2) := by decide +kernel
theorem dX0_gapInUnits_121 : decode cX0_gapInUnits 121 = .ok (.lload 8, 2) := by decide +kernel
theorem dX0_gapInUnits_123 : decode cX0_gapInUnits 123 = .ok (.invokestatic 259, 3) := by decide +kernel
theorem dX0_gapInUnits_126 : decode cX0_gapInUnits 126 = .ok (.ladd, 1) := by decide +kernel
theorem dX0_gapInUnits_127 : decode cX0_gapInUnits 127 = .ok (.lreturn, 1) := by decide +kernel
theorem dX0_gapInMonths_0 : decode cX0_gapInMonths 0 = .ok (.aload_n 0, 1) := by decide +kernel
theorem dX0_gapInMonths_1 : decode cX0_gapInMonths 1 = .ok (.iload_n 2, 1) := by decide +kernel
theorem dX0_gapInMonths_2 : decode cX0_gapInMonths 2 = .ok (.iload_n 1, 1) := by decide +kernel
theorem dX0_gapInMonths_3 : decode cX0_gapInMonths 3 = .ok (.invokevirtual 151, 3) := by decide +kernel
theorem dX0_gapInMonths_6 : decode cX0_gapInMonths 6 = .ok (.ifCond .ge 11, 3) := by decide +kernel
theorem dX0_gapInMonths_9 : decode cX0_gapInMonths 9 = .ok (.aload_n 0, 1) := by decide +kernel
theorem dX0_gapInMonths_10 : decode cX0_gapInMonths 10 = .ok (.iload_n 2, 1) := by decide +kernel
theorem dX0_gapInMonths_11 : decode cX0_gapInMonths 11 = .ok (.iload_n 1, 1) := by decide +kernel
theorem dX0_gapInMonths_12 : decode cX0_gapInMonths 12 = .ok (.invokevirtual 311, 3) := by decide +kernel
theorem dX0_gapInMonths_15 : decode cX0_gapInMonths 15 = .ok (.lneg, 1) := by decide +kernel
theorem dX0_gapInMonths_16 : decode cX0_gapInMonths 16 = .ok (.lreturn, 1) := by decide +kernel
theorem dX0_gapInMonths_17 : decode cX0_gapInMonths 17 = .ok (.aload_n 0, 1) := by decide +kernel
theorem dX0_gapInMonths_18 : decode cX0_gapInMonths 18 = .ok (.iload_n 1, 1) := by decide +kernel
theorem dX0_gapInMonths_19 : decode cX0_gapInMonths 19 = .ok (.iload_n 2, 1) := by decide +kernel
theorem dX0_gapInMonths_20 : decode cX0_gapInMonths 20 = .ok (.invokevirtual 311, 3) := by decide +kernel
theorem dX0_gapInMonths_23 : decode cX0_gapInMonths 23 = .ok (.lreturn, 1) := by decide +kernel
theorem dX0_wholeMonths_0 : decode cX0_wholeMonths 0 = .ok (.aload_n 0, 1) := by decide +kernel
theorem dX0_wholeMonths_1 : decode cX0_wholeMonths 1 = .ok (.iload_n 2, 1) := by decide +kernel
theorem dX0_wholeMonths_2 : decode cX0_wholeMonths 2 = .ok (.invokevirtual 239, 3) := by decide +kernel
theorem dX0_wholeMonths_5 : decode cX0_wholeMonths 5 = .ok (.aload_n 0, 1) := by decide +kernel
theorem dX0_wholeMonths_6 : decode cX0_wholeMonths 6 = .ok (.iload_n 1, 1) := by decide +kernel
theorem dX0_wholeMonths_7 : decode cX0_wholeMonths 7 = .ok (.invokevirtual 239, 3) := by decide +kernel
theorem dX0_wholeMonths_10 : decode cX0_wholeMonths 10 = .ok (.lsub, 1) := by decide +kernel
theorem dX0_wholeMonths_11 : decode cX0_wholeMonths 11 = .ok (.lstore_n 3, 1) := by decide +kernel
theorem dX0_wholeMonths_12 : decode cX0_wholeMonths 12 = .ok (.aload_n 0, 1) := by decide +kernel
theorem dX0_wholeMonths_13 : decode cX0_wholeMonths 13 = .ok (.getfield 16, 3) := by decide +kernel
theorem dX0_wholeMonths_16 : decode cX0_wholeMonths 16 = .ok (.iload_n 2, 1) := by decide +kernel
theorem dX0_wholeMonths_17 : decode cX0_wholeMonths 17 = .ok (.iaload, 1) := by decide +kernel
theorem dX0_wholeMonths_18 : decode cX0_wholeMonths 18 = .ok (.aload_n 0, 1) := by decide +kernel
theorem dX0_wholeMonths_19 : decode cX0_wholeMonths 19 = .ok (.getfield 16, 3) := by decide +kernel
theorem dX0_wholeMonths_22 : decode cX0_wholeMonths 22 = .ok (.iload_n 1, 1) := by decide +kernel
theorem dX0_wholeMonths_23 : decode cX0_wholeMonths 23 = .ok (.iaload, 1) := by decide +kernel
theorem dX0_wholeMonths_24 : decode cX0_wholeMonths 24 = .ok (.if_icmp .lt 34, 3) := by decide +kernel
theorem dX0_wholeMonths_27 : decode cX0_wholeMonths 27 = .ok (.aload_n 0, 1) := by decide +kernel
theorem dX0_wholeMonths_28 : decode cX0_wholeMonths 28 = .ok (.getfield 16, 3) := by decide +kernel
theorem dX0_wholeMonths_31 : decode cX0_wholeMonths 31 = .ok (.iload_n 2, 1) := by decide +kernel
theorem dX0_wholeMonths_32 : decode cX0_wholeMonths 32 = .ok (.iaload, 1) := by decide +kernel
theorem dX0_wholeMonths_33 : decode cX0_wholeMonths 33 = .ok (.aload_n 0, 1) := by decide +kernel
theorem dX0_wholeMonths_34 : decode cX0_wholeMonths 34 = .ok (.getfield 16, 3) := by decide +kernel
theorem dX0_wholeMonths_37 : decode cX0_wholeMonths 37 = .ok (.iload_n 1, 1) := by decide +kernel
theorem dX0_wholeMonths_38 : decode cX0_wholeMonths 38 = .ok (.iaload, 1) := by decide +kernel
theorem dX0_wholeMonths_39 : decode cX0_wholeMonths 39 = .ok (.if_icmp .ne 23, 3) := by decide +kernel
theorem dX0_wholeMonths_42 : decode cX0_wholeMonths 42 = .ok (.aload_n 0, 1) := by decide +kernel
theorem dX0_wholeMonths_43 : decode cX0_wholeMonths 43 = .ok (.getfield 23, 3) := by decide +kernel
theorem dX0_wholeMonths_46 : decode cX0_wholeMonths 46 = .ok (.iload_n 2, 1) := by decide +kernel
theorem dX0_wholeMonths_47 : decode cX0_wholeMonths 47 = .ok (.laload, 1) := by decide +kernel
theorem dX0_wholeMonths_48 : decode cX0_wholeMonths 48 = .ok (.aload_n 0, 1) := by decide +kernel
theorem dX0_wholeMonths_49 : decode cX0_wholeMonths 49 = .ok (.getfield 23, 3) := by decide +kernel
theorem dX0_wholeMonths_52 : decode cX0_wholeMonths 52 = .ok (.iload_n 1, 1) := by decide +kernel
theorem dX0_wholeMonths_53 : decode cX0_wholeMonths 53 = .ok (.laload, 1) := by decide +kernel
theorem dX0_wholeMonths_54 : decode cX0_wholeMonths 54 = .ok (.lcmp, 1) := by decide +kernel
theorem dX0_wholeMonths_55 : decode cX0_wholeMonths 55 = .ok (.ifCond .ge 7, 3) := by decide +kernel
theorem dX0_wholeMonths_58 : decode cX0_wholeMonths 58 = .ok (.iconst 1, 1) := by decide +kernel
theorem dX0_wholeMonths_59 : decode cX0_wholeMonths 59 = .ok (.goto 4, 3) := by decide +kernel
theorem dX0_wholeMonths_62 : decode cX0_wholeMonths 62 = .ok (.iconst 0, 1) := by decide +kernel
theorem dX0_wholeMonths_63 : decode cX0_wholeMonths 63 = .ok (.istore 5, 2) := by decide +kernel
theorem dX0_wholeMonths_65 : decode cX0_wholeMonths 65 = .ok (.iload 5, 2) := by decide +kernel
theorem dX0_wholeMonths_67 : decode cX0_wholeMonths 67 = .ok (.ifCond .eq 9, 3) := by decide +kernel
theorem dX0_wholeMonths_70 : decode cX0_wholeMonths 70 = .ok (.lload_n 3, 1) := by decide +kernel
theorem dX0_wholeMonths_71 : decode cX0_wholeMonths 71 = .ok (.lconst 1, 1) := by decide +kernel
theorem dX0_wholeMonths_72 : decode cX0_wholeMonths 72 = .ok (.lsub, 1) := by decide +kernel
theorem dX0_wholeMonths_73 : decode cX0_wholeMonths 73 = .ok (.goto 4, 3) := by decide +kernel
theorem dX0_wholeMonths_76 : decode cX0_wholeMonths 76 = .ok (.lload_n 3, 1) := by decide +kernel
theorem dX0_wholeMonths_77 : decode cX0_wholeMonths 77 = .ok (.lreturn, 1) := by decide +kernel
theorem dX0_digitsOf_0 : decode cX0_digitsOf 0 = .ok (.new 314, 3) := by decide +kernel
theorem dX0_digitsOf_3 : decode cX0_digitsOf 3 = .ok (.dup, 1) := by decide +kernel
theorem dX0_digitsOf_4 : decode cX0_digitsOf 4 = .ok (.invokespecial 316, 3) := by decide +kernel
theorem dX0_digitsOf_7 : decode cX0_digitsOf 7 = .ok (.astore_n 2, 1) := by decide +kernel
theorem dX0_digitsOf_8 : decode cX0_digitsOf 8 = .ok (.lload_n 0, 1) := by decide +kernel
theorem dX0_digitsOf_9 : decode cX0_digitsOf 9 = .ok (.lconst 0, 1) := by decide +kernel
theorem dX0_digitsOf_10 : decode cX0_digitsOf 10 = .ok (.lcmp, 1) := by decide +kernel
theorem dX0_digitsOf_11 : decode cX0_digitsOf 11 = .ok (.ifCond .ge 12, 3) := by decide +kernel
theorem dX0_digitsOf_14 : decode cX0_digitsOf 14 = .ok (.lload_n 0, 1) := by decide +kernel
theorem dX0_digitsOf_15 : decode cX0_digitsOf 15 = .ok (.invokestatic 193, 3) := by decide +kernel
theorem dX0_digitsOf_18 : decode cX0_digitsOf 18 = .ok (.iconst 1, 1) := by decide +kernel
theorem dX0_digitsOf_19 : decode cX0_digitsOf 19 = .ok (.isub, 1) := by decide +kernel
theorem dX0_digitsOf_20 : decode cX0_digitsOf 20 = .ok (.goto 7, 3) := by decide +kernel
theorem dX0_digitsOf_23 : decode cX0_digitsOf 23 = .ok (.lload_n 0, 1) := by decide +kernel
theorem dX0_digitsOf_24 : decode cX0_digitsOf 24 = .ok (.invokestatic 193, 3) := by decide +kernel
theorem dX0_digitsOf_27 : decode cX0_digitsOf 27 = .ok (.istore_n 3, 1) := by decide +kernel
theorem dX0_digitsOf_28 : decode cX0_digitsOf 28 = .ok (.lload_n 0, 1) := by decide +kernel
theorem dX0_digitsOf_29 : decode cX0_digitsOf 29 = .ok (.lstore 4, 2) := by decide +kernel
theorem dX0_digitsOf_31 : decode cX0_digitsOf 31 = .ok (.iconst 0, 1) := by decide +kernel
theorem dX0_digitsOf_32 : decode cX0_digitsOf 32 = .ok (.istore 6, 2) := by decide +kernel
theorem dX0_digitsOf_34 : decode cX0_digitsOf 34 = .ok (.iload 6, 2) := by decide +kernel
theorem dX0_digitsOf_36 : decode cX0_digitsOf 36 = .ok (.iload_n 3, 1) := by decide +kernel
theorem dX0_digitsOf_37 : decode cX0_digitsOf 37 = .ok (.if_icmp .ge 37, 3) := by decide +kernel
theorem dX0_digitsOf_40 : decode cX0_digitsOf 40 = .ok (.aload_n 2, 1) := by decide +kernel
theorem dX0_digitsOf_41 : decode cX0_digitsOf 41 = .ok (.ldc2_w 317, 3) := by decide +kernel
theorem dX0_digitsOf_44 : decode cX0_digitsOf 44 = .ok (.lload 4, 2) := by decide +kernel
theorem dX0_digitsOf_46 : decode cX0_digitsOf 46 = .ok (.ldc2_w 319, 3) := by decide +kernel
theorem dX0_digitsOf_49 : decode cX0_digitsOf 49 = .ok (.lrem, 1) := by decide +kernel
theorem dX0_digitsOf_50 : decode cX0_digitsOf 50 = .ok (.invokestatic 305, 3) := by decide +kernel
theorem dX0_digitsOf_53 : decode cX0_digitsOf 53 = .ok (.ladd, 1) := by decide +kernel
theorem dX0_digitsOf_54 : decode cX0_digitsOf 54 = .ok (.l2i, 1) := by decide +kernel
theorem dX0_digitsOf_55 : decode cX0_digitsOf 55 = .ok (.i2c, 1) := by decide +kernel
theorem dX0_digitsOf_56 : decode cX0_digitsOf 56 = .ok (.invokevirtual 321, 3) := by decide +kernel
theorem dX0_digitsOf_59 : decode cX0_digitsOf 59 = .ok (.pop, 1) := by decide +kernel
theorem dX0_digitsOf_60 : decode cX0_digitsOf 60 = .ok (.lload 4, 2) := by decide +kernel
theorem dX0_digitsOf_62 : decode cX0_digitsOf 62 = .ok (.ldc2_w 319, 3) := by decide +kernel
theorem dX0_digitsOf_65 : decode cX0_digitsOf 65 = .ok (.ldiv, 1) := by decide +kernel
theorem dX0_digitsOf_66 : decode cX0_digitsOf 66 = .ok (.lstore 4, 2) := by decide +kernel
theorem dX0_digitsOf_68 : decode cX0_digitsOf 68 = .ok (.iinc 6 1, 3) := by decide +kernel
theorem dX0_digitsOf_71 : decode cX0_digitsOf 71 = .ok (.goto (-37), 3) := by decide +kernel
theorem dX0_digitsOf_74 : decode cX0_digitsOf 74 = .ok (.lload_n 0, 1) := by decide +kernel
theorem dX0_digitsOf_75 : decode cX0_digitsOf 75 = .ok (.lconst 0, 1) := by decide +kernel
theorem dX0_digitsOf_76 : decode cX0_digitsOf 76 = .ok (.lcmp, 1) := by decide +kernel
theorem dX0_digitsOf_77 : decode cX0_digitsOf 77 = .ok (.ifCond .ge 10, 3) := by decide +kernel
theorem dX0_digitsOf_80 : decode cX0_digitsOf 80 = .ok (.aload_n 2, 1) := by decide +kernel
theorem dX0_digitsOf_81 : decode cX0_digitsOf 81 = .ok (.bipush 45, 2) := by decide +kernel
theorem dX0_digitsOf_83 : decode cX0_digitsOf 83 = .ok (.invokevirtual 321, 3) := by decide +kernel
theorem dX0_digitsOf_86 : decode cX0_digitsOf 86 = .ok (.pop, 1) := by decide +kernel
theorem dX0_digitsOf_87 : decode cX0_digitsOf 87 = .ok (.aload_n 2, 1) := by decide +kernel
theorem dX0_digitsOf_88 : decode cX0_digitsOf 88 = .ok (.invokevirtual 325, 3) := by decide +kernel
theorem dX0_digitsOf_91 : decode cX0_digitsOf 91 = .ok (.invokevirtual 329, 3) := by decide +kernel
theorem dX0_digitsOf_94 : decode cX0_digitsOf 94 = .ok (.areturn, 1) := by decide +kernel
theorem dX0_digitCount_0 : decode cX0_digitCount 0 = .ok (.lload_n 0, 1) := by decide +kernel
theorem dX0_digitCount_1 : decode cX0_digitCount 1 = .ok (.lconst 0, 1) := by decide +kernel
theorem dX0_digitCount_2 : decode cX0_digitCount 2 = .ok (.lcmp, 1) := by decide +kernel
theorem dX0_digitCount_3 : decode cX0_digitCount 3 = .ok (.ifCond .ge 7, 3) := by decide +kernel
theorem dX0_digitCount_6 : decode cX0_digitCount 6 = .ok (.iconst 2, 1) := by decide +kernel
theorem dX0_digitCount_7 : decode cX0_digitCount 7 = .ok (.goto 4, 3) := by decide +kernel
theorem dX0_digitCount_10 : decode cX0_digitCount 10 = .ok (.iconst 1, 1) := by decide +kernel
theorem dX0_digitCount_11 : decode cX0_digitCount 11 = .ok (.istore_n 2, 1) := by decide +kernel
theorem dX0_digitCount_12 : decode cX0_digitCount 12 = .ok (.lload_n 0, 1) := by decide +kernel
theorem dX0_digitCount_13 : decode cX0_digitCount 13 = .ok (.ldc2_w 319, 3) := by decide +kernel
theorem dX0_digitCount_16 : decode cX0_digitCount 16 = .ok (.ldiv, 1) := by decide +kernel
theorem dX0_digitCount_17 : decode cX0_digitCount 17 = .ok (.lstore_n 3, 1) := by decide +kernel
theorem dX0_digitCount_18 : decode cX0_digitCount 18 = .ok (.iconst 1, 1) := by decide +kernel
theorem dX0_digitCount_19 : decode cX0_digitCount 19 = .ok (.istore 5, 2) := by decide +kernel
theorem dX0_digitCount_21 : decode cX0_digitCount 21 = .ok (.iload 5, 2) := by decide +kernel
theorem dX0_digitCount_23 : decode cX0_digitCount 23 = .ok (.bipush 19, 2) := by decide +kernel
theorem dX0_digitCount_25 : decode cX0_digitCount 25 = .ok (.if_icmp .ge 24, 3) := by decide +kernel
theorem dX0_digitCount_28 : decode cX0_digitCount 28 = .ok (.lload_n 3, 1) := by decide +kernel
theorem dX0_digitCount_29 : decode cX0_digitCount 29 = .ok (.lconst 0, 1) := by decide +kernel
theorem dX0_digitCount_30 : decode cX0_digitCount 30 = .ok (.lcmp, 1) := by decide +kernel
theorem dX0_digitCount_31 : decode cX0_digitCount 31 = .ok (.ifCond .eq 18, 3) := by decide +kernel
theorem dX0_digitCount_34 : decode cX0_digitCount 34 = .ok (.iinc 2 1, 3) := by decide +kernel
theorem dX0_digitCount_37 : decode cX0_digitCount 37 = .ok (.lload_n 3, 1) := by decide +kernel
theorem dX0_digitCount_38 : decode cX0_digitCount 38 = .ok (.ldc2_w 319, 3) := by decide +kernel
theorem dX0_digitCount_41 : decode cX0_digitCount 41 = .ok (.ldiv, 1) := by decide +kernel
theorem dX0_digitCount_42 : decode cX0_digitCount 42 = .ok (.lstore_n 3, 1) := by decide +kernel
theorem dX0_digitCount_43 : decode cX0_digitCount 43 = .ok (.iinc 5 1, 3) := by decide +kernel
theorem dX0_digitCount_46 : decode cX0_digitCount 46 = .ok (.goto (-25), 3) := by decide +kernel
theorem dX0_digitCount_49 : decode cX0_digitCount 49 = .ok (.iload_n 2, 1) := by decide +kernel
theorem dX0_digitCount_50 : decode cX0_digitCount 50 = .ok (.ireturn, 1) := by decide +kernel
theorem dX0_houseNumber_0 : decode cX0_houseNumber 0 = .ok (.iload_n 1, 1) := by decide +kernel
theorem dX0_houseNumber_1 : decode cX0_houseNumber 1 = .ok (.tableswitch 62 0 4 #[35, 40, 45, 50, 56], 35) := by decide +kernel
theorem dX0_houseNumber_36 : decode cX0_houseNumber 36 = .ok (.aload_n 0, 1) := by decide +kernel
theorem dX0_houseNumber_37 : decode cX0_houseNumber 37 = .ok (.getfield 218, 3) := by decide +kernel
theorem dX0_houseNumber_40 : decode cX0_houseNumber 40 = .ok (.ireturn, 1) := by decide +kernel
theorem dX0_houseNumber_41 : decode cX0_houseNumber 41 = .ok (.aload_n 0, 1) := by decide +kernel
theorem dX0_houseNumber_42 : decode cX0_houseNumber 42 = .ok (.getfield 212, 3) := by decide +kernel
theorem dX0_houseNumber_45 : decode cX0_houseNumber 45 = .ok (.ireturn, 1) := by decide +kernel
theorem dX0_houseNumber_46 : decode cX0_houseNumber 46 = .ok (.aload_n 0, 1) := by decide +kernel
theorem dX0_houseNumber_47 : decode cX0_houseNumber 47 = .ok (.invokevirtual 333, 3) := by decide +kernel
theorem dX0_houseNumber_50 : decode cX0_houseNumber 50 = .ok (.ireturn, 1) := by decide +kernel
theorem dX0_houseNumber_51 : decode cX0_houseNumber 51 = .ok (.aload_n 0, 1) := by decide +kernel
theorem dX0_houseNumber_52 : decode cX0_houseNumber 52 = .ok (.iconst (-1), 1) := by decide +kernel
theorem dX0_houseNumber_53 : decode cX0_houseNumber 53 = .ok (.invokevirtual 336, 3) := by decide +kernel
theorem dX0_houseNumber_56 : decode cX0_houseNumber 56 = .ok (.ireturn, 1) := by decide +kernel
theorem dX0_houseNumber_57 : decode cX0_houseNumber 57 = .ok (.aload_n 0, 1) := by decide +kernel
theorem dX0_houseNumber_58 : decode cX0_houseNumber 58 = .ok (.iconst 1, 1) := by decide +kernel
theorem dX0_houseNumber_59 : decode cX0_houseNumber 59 = .ok (.invokevirtual 336, 3) := by decide +kernel
theorem dX0_houseNumber_62 : decode cX0_houseNumber 62 = .ok (.ireturn, 1) := by decide +kernel
theorem dX0_houseNumber_63 : decode cX0_houseNumber 63 = .ok (.aload_n 0, 1) := by decide +kernel
theorem dX0_houseNumber_64 : decode cX0_houseNumber 64 = .ok (.getfield 171, 3) := by decide +kernel
theorem dX0_houseNumber_67 : decode cX0_houseNumber 67 = .ok (.ireturn, 1) := by decide +kernel
theorem dX0_countRepeated_0 : decode cX0_countRepeated 0 = .ok (.iconst 0, 1) := by decide +kernel
theorem dX0_countRepeated_1 : decode cX0_countRepeated 1 = .ok (.istore_n 1, 1) := by decide +kernel
theorem dX0_countRepeated_2 : decode cX0_countRepeated 2 = .ok (.iconst 1, 1) := by decide +kernel
theorem dX0_countRepeated_3 : decode cX0_countRepeated 3 = .ok (.istore_n 2, 1) := by decide +kernel
theorem dX0_countRepeated_4 : decode cX0_countRepeated 4 = .ok (.iload_n 2, 1) := by decide +kernel
theorem dX0_countRepeated_5 : decode cX0_countRepeated 5 = .ok (.bipush 6, 2) := by decide +kernel
theorem dX0_countRepeated_7 : decode cX0_countRepeated 7 = .ok (.if_icmp .ge 20, 3) := by decide +kernel
theorem dX0_countRepeated_10 : decode cX0_countRepeated 10 = .ok (.aload_n 0, 1) := by decide +kernel
theorem dX0_countRepeated_11 : decode cX0_countRepeated 11 = .ok (.iload_n 2, 1) := by decide +kernel
theorem dX0_countRepeated_12 : decode cX0_countRepeated 12 = .ok (.invokevirtual 339, 3) := by decide +kernel
theorem dX0_countRepeated_15 : decode cX0_countRepeated 15 = .ok (.ifCond .eq 6, 3) := by decide +kernel
theorem dX0_countRepeated_18 : decode cX0_countRepeated 18 = .ok (.iinc 1 1, 3) := by decide +kernel
theorem dX0_countRepeated_21 : decode cX0_countRepeated 21 = .ok (.iinc 2 1, 3) := by decide +kernel
theorem dX0_countRepeated_24 : decode cX0_countRepeated 24 = .ok (.goto (-20), 3) := by decide +kernel
theorem dX0_countRepeated_27 : decode cX0_countRepeated 27 = .ok (.iload_n 1, 1) := by decide +kernel
theorem dX0_countRepeated_28 : decode cX0_countRepeated 28 = .ok (.ireturn, 1) := by decide +kernel
theorem dX0_isRepeated_0 : decode cX0_isRepeated 0 = .ok (.iconst 0, 1) := by decide +kernel
theorem dX0_isRepeated_1 : decode cX0_isRepeated 1 = .ok (.istore_n 2, 1) := by decide +kernel
theorem dX0_isRepeated_2 : decode cX0_isRepeated 2 = .ok (.iload_n 2, 1) := by decide +kernel
theorem dX0_isRepeated_3 : decode cX0_isRepeated 3 = .ok (.iload_n 1, 1) := by decide +kernel
theorem dX0_isRepeated_4 : decode cX0_isRepeated 4 = .ok (.if_icmp .ge 20, 3) := by decide +kernel
theorem dX0_isRepeated_7 : decode cX0_isRepeated 7 = .ok (.aload_n 0, 1) := by decide +kernel
theorem dX0_isRepeated_8 : decode cX0_isRepeated 8 = .ok (.iload_n 1, 1) := by decide +kernel
theorem dX0_isRepeated_9 : decode cX0_isRepeated 9 = .ok (.iload_n 2, 1) := by decide +kernel
theorem dX0_isRepeated_10 : decode cX0_isRepeated 10 = .ok (.invokevirtual 154, 3) := by decide +kernel
theorem dX0_isRepeated_13 : decode cX0_isRepeated 13 = .ok (.ifCond .eq 5, 3) := by decide +kernel
theorem dX0_isRepeated_16 : decode cX0_isRepeated 16 = .ok (.iconst 1, 1) := by decide +kernel
theorem dX0_isRepeated_17 : decode cX0_isRepeated 17 = .ok (.ireturn, 1) := by decide +kernel
theorem dX0_isRepeated_18 : decode cX0_isRepeated 18 = .ok (.iinc 2 1, 3) := by decide +kernel
theorem dX0_isRepeated_21 : decode cX0_isRepeated 21 = .ok (.goto (-19), 3) := by decide +kernel
theorem dX0_isRepeated_24 : decode cX0_isRepeated 24 = .ok (.iconst 0, 1) := by decide +kernel
theorem dX0_isRepeated_25 : decode cX0_isRepeated 25 = .ok (.ireturn, 1) := by decide +kernel
theorem dX0_outermost_0 : decode cX0_outermost 0 = .ok (.iconst 0, 1) := by decide +kernel
theorem dX0_outermost_1 : decode cX0_outermost 1 = .ok (.istore_n 2, 1) := by decide +kernel
theorem dX0_outermost_2 : decode cX0_outermost 2 = .ok (.iconst 1, 1) := by decide +kernel
theorem dX0_outermost_3 : decode cX0_outermost 3 = .ok (.istore_n 3, 1) := by decide +kernel
theorem dX0_outermost_4 : decode cX0_outermost 4 = .ok (.iload_n 3, 1) := by decide +kernel
theorem dX0_outermost_5 : decode cX0_outermost 5 = .ok (.bipush 6, 2) := by decide +kernel
theorem dX0_outermost_7 : decode cX0_outermost 7 = .ok (.if_icmp .ge 21, 3) := by decide +kernel
theorem dX0_outermost_10 : decode cX0_outermost 10 = .ok (.aload_n 0, 1) := by decide +kernel
theorem dX0_outermost_11 : decode cX0_outermost 11 = .ok (.iload_n 3, 1) := by decide +kernel
theorem dX0_outermost_12 : decode cX0_outermost 12 = .ok (.iload_n 2, 1) := by decide +kernel
theorem dX0_outermost_13 : decode cX0_outermost 13 = .ok (.invokevirtual 151, 3) := by decide +kernel
theorem dX0_outermost_16 : decode cX0_outermost 16 = .ok (.iload_n 1, 1) := by decide +kernel
theorem dX0_outermost_17 : decode cX0_outermost 17 = .ok (.if_icmp .ne 5, 3) := by decide +kernel
theorem dX0_outermost_20 : decode cX0_outermost 20 = .ok (.iload_n 3, 1) := by decide +kernel
theorem dX0_outermost_21 : decode cX0_outermost 21 = .ok (.istore_n 2, 1) := by decide +kernel
theorem dX0_outermost_22 : decode cX0_outermost 22 = .ok (.iinc 3 1, 3) := by decide +kernel
theorem dX0_outermost_25 : decode cX0_outermost 25 = .ok (.goto (-21), 3) := by decide +kernel
theorem dX0_outermost_28 : decode cX0_outermost 28 = .ok (.iload_n 2, 1) := by decide +kernel
theorem dX0_outermost_29 : decode cX0_outermost 29 = .ok (.ireturn, 1) := by decide +kernel
theorem dX0_mixMoment_0 : decode cX0_mixMoment 0 = .ok (.aload_n 0, 1) := by decide +kernel
theorem dX0_mixMoment_1 : decode cX0_mixMoment 1 = .ok (.getfield 23, 3) := by decide +kernel
theorem dX0_mixMoment_4 : decode cX0_mixMoment 4 = .ok (.iload_n 3, 1) := by decide +kernel
theorem dX0_mixMoment_5 : decode cX0_mixMoment 5 = .ok (.laload, 1) := by decide +kernel
theorem dX0_mixMoment_6 : decode cX0_mixMoment 6 = .ok (.lstore 4, 2) := by decide +kernel
theorem dX0_mixMoment_8 : decode cX0_mixMoment 8 = .ok (.lload_n 1, 1) := by decide +kernel
theorem dX0_mixMoment_9 : decode cX0_mixMoment 9 = .ok (.aload_n 0, 1) := by decide +kernel
theorem dX0_mixMoment_10 : decode cX0_mixMoment 10 = .ok (.getfield 9, 3) := by decide +kernel
theorem dX0_mixMoment_13 : decode cX0_mixMoment 13 = .ok (.iload_n 3, 1) := by decide +kernel
theorem dX0_mixMoment_14 : decode cX0_mixMoment 14 = .ok (.iaload, 1) := by decide +kernel
theorem dX0_mixMoment_15 : decode cX0_mixMoment 15 = .ok (.i2l, 1) := by decide +kernel
theorem dX0_mixMoment_16 : decode cX0_mixMoment 16 = .ok (.invokestatic 185, 3) := by decide +kernel
theorem dX0_mixMoment_19 : decode cX0_mixMoment 19 = .ok (.lstore 6, 2) := by decide +kernel
theorem dX0_mixMoment_21 : decode cX0_mixMoment 21 = .ok (.lload 6, 2) := by decide +kernel
theorem dX0_mixMoment_23 : decode cX0_mixMoment 23 = .ok (.aload_n 0, 1) := by decide +kernel
theorem dX0_mixMoment_24 : decode cX0_mixMoment 24 = .ok (.getfield 13, 3) := by decide +kernel
theorem dX0_mixMoment_27 : decode cX0_mixMoment 27 = .ok (.iload_n 3, 1) := by decide +kernel
theorem dX0_mixMoment_28 : decode cX0_mixMoment 28 = .ok (.iaload, 1) := by decide +kernel
theorem dX0_mixMoment_29 : decode cX0_mixMoment 29 = .ok (.i2l, 1) := by decide +kernel
theorem dX0_mixMoment_30 : decode cX0_mixMoment 30 = .ok (.invokestatic 185, 3) := by decide +kernel
theorem dX0_mixMoment_33 : decode cX0_mixMoment 33 = .ok (.lstore 6, 2) := by decide +kernel
theorem dX0_mixMoment_35 : decode cX0_mixMoment 35 = .ok (.lload 6, 2) := by decide +kernel
theorem dX0_mixMoment_37 : decode cX0_mixMoment 37 = .ok (.aload_n 0, 1) := by decide +kernel
theorem dX0_mixMoment_38 : decode cX0_mixMoment 38 = .ok (.getfield 16, 3) := by decide +kernel
theorem dX0_mixMoment_41 : decode cX0_mixMoment 41 = .ok (.iload_n 3, 1) := by decide +kernel
theorem dX0_mixMoment_42 : decode cX0_mixMoment 42 = .ok (.iaload, 1) := by decide +kernel
theorem dX0_mixMoment_43 : decode cX0_mixMoment 43 = .ok (.i2l, 1) := by decide +kernel
theorem dX0_mixMoment_44 : decode cX0_mixMoment 44 = .ok (.invokestatic 185, 3) := by decide +kernel
theorem dX0_mixMoment_47 : decode cX0_mixMoment 47 = .ok (.lstore 6, 2) := by decide +kernel
theorem dX0_mixMoment_49 : decode cX0_mixMoment 49 = .ok (.lload 6, 2) := by decide +kernel
theorem dX0_mixMoment_51 : decode cX0_mixMoment 51 = .ok (.aload_n 0, 1) := by decide +kernel
theorem dX0_mixMoment_52 : decode cX0_mixMoment 52 = .ok (.iload_n 3, 1) := by decide +kernel
theorem dX0_mixMoment_53 : decode cX0_mixMoment 53 = .ok (.invokevirtual 126, 3) := by decide +kernel
theorem dX0_mixMoment_56 : decode cX0_mixMoment 56 = .ok (.i2l, 1) := by decide +kernel
theorem dX0_mixMoment_57 : decode cX0_mixMoment 57 = .ok (.invokestatic 185, 3) := by decide +kernel
theorem dX0_mixMoment_60 : decode cX0_mixMoment 60 = .ok (.lstore 6, 2) := by decide +kernel
theorem dX0_mixMoment_62 : decode cX0_mixMoment 62 = .ok (.lload 6, 2) := by decide +kernel
theorem dX0_mixMoment_64 : decode cX0_mixMoment 64 = .ok (.aload_n 0, 1) := by decide +kernel
theorem dX0_mixMoment_65 : decode cX0_mixMoment 65 = .ok (.getfield 19, 3) := by decide +kernel
theorem dX0_mixMoment_68 : decode cX0_mixMoment 68 = .ok (.iload_n 3, 1) := by decide +kernel
theorem dX0_mixMoment_69 : decode cX0_mixMoment 69 = .ok (.laload, 1) := by decide +kernel
theorem dX0_mixMoment_70 : decode cX0_mixMoment 70 = .ok (.invokestatic 129, 3) := by decide +kernel
theorem dX0_mixMoment_73 : decode cX0_mixMoment 73 = .ok (.i2l, 1) := by decide +kernel
theorem dX0_mixMoment_74 : decode cX0_mixMoment 74 = .ok (.invokestatic 185, 3) := by decide +kernel
theorem dX0_mixMoment_77 : decode cX0_mixMoment 77 = .ok (.lstore 6, 2) := by decide +kernel
theorem dX0_mixMoment_79 : decode cX0_mixMoment 79 = .ok (.lload 6, 2) := by decide +kernel
theorem dX0_mixMoment_81 : decode cX0_mixMoment 81 = .ok (.lload 4, 2) := by decide +kernel
theorem dX0_mixMoment_83 : decode cX0_mixMoment 83 = .ok (.invokestatic 81, 3) := by decide +kernel
theorem dX0_mixMoment_86 : decode cX0_mixMoment 86 = .ok (.i2l, 1) := by decide +kernel
theorem dX0_mixMoment_87 : decode cX0_mixMoment 87 = .ok (.invokestatic 185, 3) := by decide +kernel
theorem dX0_mixMoment_90 : decode cX0_mixMoment 90 = .ok (.lstore 6, 2) := by decide +kernel
theorem dX0_mixMoment_92 : decode cX0_mixMoment 92 = .ok (.lload 6, 2) := by decide +kernel
theorem dX0_mixMoment_94 : decode cX0_mixMoment 94 = .ok (.lload 4, 2) := by decide +kernel
theorem dX0_mixMoment_96 : decode cX0_mixMoment 96 = .ok (.invokestatic 87, 3) := by decide +kernel
theorem dX0_mixMoment_99 : decode cX0_mixMoment 99 = .ok (.i2l, 1) := by decide +kernel
theorem dX0_mixMoment_100 : decode cX0_mixMoment 100 = .ok (.invokestatic 185, 3) := by decide +kernel
theorem dX0_mixMoment_103 : decode cX0_mixMoment 103 = .ok (.lstore 6, 2) := by decide +kernel
theorem dX0_mixMoment_105 : decode cX0_mixMoment 105 = .ok (.lload 6, 2) := by decide +kernel
theorem dX0_mixMoment_107 : decode cX0_mixMoment 107 = .ok (.lload 4, 2) := by decide +kernel
theorem dX0_mixMoment_109 : decode cX0_mixMoment 109 = .ok (.invokestatic 92, 3) := by decide +kernel
theorem dX0_mixMoment_112 : decode cX0_mixMoment 112 = .ok (.i2l, 1) := by decide +kernel
theorem dX0_mixMoment_113 : decode cX0_mixMoment 113 = .ok (.invokestatic 185, 3) := by decide +kernel
theorem dX0_mixMoment_116 : decode cX0_mixMoment 116 = .ok (.lstore 6, 2) := by decide +kernel
theorem dX0_mixMoment_118 : decode cX0_mixMoment 118 = .ok (.lload 6, 2) := by decide +kernel
theorem dX0_mixMoment_120 : decode cX0_mixMoment 120 = .ok (.lload 4, 2) := by decide +kernel
theorem dX0_mixMoment_122 : decode cX0_mixMoment 122 = .ok (.invokestatic 97, 3) := by decide +kernel
theorem dX0_mixMoment_125 : decode cX0_mixMoment 125 = .ok (.i2l, 1) := by decide +kernel
theorem dX0_mixMoment_126 : decode cX0_mixMoment 126 = .ok (.invokestatic 185, 3) := by decide +kernel
theorem dX0_mixMoment_129 : decode cX0_mixMoment 129 = .ok (.lstore 6, 2) := by decide +kernel
theorem dX0_mixMoment_131 : decode cX0_mixMoment 131 = .ok (.lload 6, 2) := by decide +kernel
theorem dX0_mixMoment_133 : decode cX0_mixMoment 133 = .ok (.aload_n 0, 1) := by decide +kernel
theorem dX0_mixMoment_134 : decode cX0_mixMoment 134 = .ok (.getfield 19, 3) := by decide +kernel
theorem dX0_mixMoment_137 : decode cX0_mixMoment 137 = .ok (.iload_n 3, 1) := by decide +kernel
theorem dX0_mixMoment_138 : decode cX0_mixMoment 138 = .ok (.laload, 1) := by decide +kernel
theorem dX0_mixMoment_139 : decode cX0_mixMoment 139 = .ok (.invokestatic 185, 3) := by decide +kernel
theorem dX0_mixMoment_142 : decode cX0_mixMoment 142 = .ok (.lreturn, 1) := by decide +kernel
theorem dX0_mix_0 : decode cX0_mix 0 = .ok (.lload_n 0, 1) := by decide +kernel
theorem dX0_mix_1 : decode cX0_mix 1 = .ok (.ldc2_w 342, 3) := by decide +kernel
theorem dX0_mix_4 : decode cX0_mix 4 = .ok (.lmul, 1) := by decide +kernel
theorem dX0_mix_5 : decode cX0_mix 5 = .ok (.lload_n 2, 1) := by decide +kernel
theorem dX0_mix_6 : decode cX0_mix 6 = .ok (.ladd, 1) := by decide +kernel
theorem dX0_mix_7 : decode cX0_mix 7 = .ok (.lreturn, 1) := by decide +kernel
theorem dX0_isSoundAlone_0 : decode cX0_isSoundAlone 0 = .ok (.aload_n 0, 1) := by decide +kernel
theorem dX0_isSoundAlone_1 : decode cX0_isSoundAlone 1 = .ok (.iload_n 1, 1) := by decide +kernel
theorem dX0_isSoundAlone_2 : decode cX0_isSoundAlone 2 = .ok (.invokevirtual 161, 3) := by decide +kernel
theorem dX0_isSoundAlone_5 : decode cX0_isSoundAlone 5 = .ok (.ifCond .eq 51, 3) := by decide +kernel
theorem dX0_isSoundAlone_8 : decode cX0_isSoundAlone 8 = .ok (.aload_n 0, 1) := by decide +kernel
theorem dX0_isSoundAlone_9 : decode cX0_isSoundAlone 9 = .ok (.iload_n 1, 1) := by decide +kernel
theorem dX0_isSoundAlone_10 : decode cX0_isSoundAlone 10 = .ok (.invokevirtual 158, 3) := by decide +kernel
theorem dX0_isSoundAlone_13 : decode cX0_isSoundAlone 13 = .ok (.ifCond .eq 43, 3) := by decide +kernel
theorem dX0_isSoundAlone_16 : decode cX0_isSoundAlone 16 = .ok (.aload_n 0, 1) := by decide +kernel
theorem dX0_isSoundAlone_17 : decode cX0_isSoundAlone 17 = .ok (.iload_n 1, 1) := by decide +kernel
theorem dX0_isSoundAlone_18 : decode cX0_isSoundAlone 18 = .ok (.invokevirtual 344, 3) := by decide +kernel
theorem dX0_isSoundAlone_21 : decode cX0_isSoundAlone 21 = .ok (.ifCond .eq 35, 3) := by decide +kernel
theorem dX0_isSoundAlone_24 : decode cX0_isSoundAlone 24 = .ok (.aload_n 0, 1) := by decide +kernel
theorem dX0_isSoundAlone_25 : decode cX0_isSoundAlone 25 = .ok (.iload_n 1, 1) := by decide +kernel
theorem dX0_isSoundAlone_26 : decode cX0_isSoundAlone 26 = .ok (.invokevirtual 347, 3) := by decide +kernel
theorem dX0_isSoundAlone_29 : decode cX0_isSoundAlone 29 = .ok (.ifCond .eq 27, 3) := by decide +kernel
theorem dX0_isSoundAlone_32 : decode cX0_isSoundAlone 32 = .ok (.aload_n 0, 1) := by decide +kernel
theorem dX0_isSoundAlone_33 : decode cX0_isSoundAlone 33 = .ok (.iload_n 1, 1) := by decide +kernel
theorem dX0_isSoundAlone_34 : decode cX0_isSoundAlone 34 = .ok (.invokevirtual 350, 3) := by decide +kernel
theorem dX0_isSoundAlone_37 : decode cX0_isSoundAlone 37 = .ok (.ifCond .eq 19, 3) := by decide +kernel
theorem dX0_isSoundAlone_40 : decode cX0_isSoundAlone 40 = .ok (.aload_n 0, 1) := by decide +kernel
theorem dX0_isSoundAlone_41 : decode cX0_isSoundAlone 41 = .ok (.getfield 23, 3) := by decide +kernel
theorem dX0_isSoundAlone_44 : decode cX0_isSoundAlone 44 = .ok (.iload_n 1, 1) := by decide +kernel
theorem dX0_isSoundAlone_45 : decode cX0_isSoundAlone 45 = .ok (.laload, 1) := by decide +kernel
theorem dX0_isSoundAlone_46 : decode cX0_isSoundAlone 46 = .ok (.invokestatic 353, 3) := by decide +kernel
theorem dX0_isSoundAlone_49 : decode cX0_isSoundAlone 49 = .ok (.ifCond .eq 7, 3) := by decide +kernel
theorem dX0_isSoundAlone_52 : decode cX0_isSoundAlone 52 = .ok (.iconst 1, 1) := by decide +kernel
theorem dX0_isSoundAlone_53 : decode cX0_isSoundAlone 53 = .ok (.goto 4, 3) := by decide +kernel
theorem dX0_isSoundAlone_56 : decode cX0_isSoundAlone 56 = .ok (.iconst 0, 1) := by decide +kernel
theorem dX0_isSoundAlone_57 : decode cX0_isSoundAlone 57 = .ok (.ireturn, 1) := by decide +kernel
theorem dX0_isItsParts_0 : decode cX0_isItsParts 0 = .ok (.aload_n 0, 1) := by decide +kernel
theorem dX0_isItsParts_1 : decode cX0_isItsParts 1 = .ok (.getfield 23, 3) := by decide +kernel
theorem dX0_isItsParts_4 : decode cX0_isItsParts 4 = .ok (.iload_n 1, 1) := by decide +kernel
theorem dX0_isItsParts_5 : decode cX0_isItsParts 5 = .ok (.laload, 1) := by decide +kernel
theorem dX0_isItsParts_6 : decode cX0_isItsParts 6 = .ok (.lstore_n 2, 1) := by decide +kernel
theorem dX0_isItsParts_7 : decode cX0_isItsParts 7 = .ok (.lload_n 2, 1) := by decide +kernel
theorem dX0_isItsParts_8 : decode cX0_isItsParts 8 = .ok (.invokestatic 81, 3) := by decide +kernel
theorem dX0_isItsParts_11 : decode cX0_isItsParts 11 = .ok (.lload_n 2, 1) := by decide +kernel
theorem dX0_isItsParts_12 : decode cX0_isItsParts 12 = .ok (.invokestatic 87, 3) := by decide +kernel
theorem dX0_isItsParts_15 : decode cX0_isItsParts 15 = .ok (.lload_n 2, 1) := by decide +kernel
theorem dX0_isItsParts_16 : decode cX0_isItsParts 16 = .ok (.invokestatic 92, 3) := by decide +kernel
theorem dX0_isItsParts_19 : decode cX0_isItsParts 19 = .ok (.lload_n 2, 1) := by decide +kernel
theorem dX0_isItsParts_20 : decode cX0_isItsParts 20 = .ok (.invokestatic 97, 3) := by decide +kernel
theorem dX0_isItsParts_23 : decode cX0_isItsParts 23 = .ok (.invokestatic 277, 3) := by decide +kernel
theorem dX0_isItsParts_26 : decode cX0_isItsParts 26 = .ok (.lstore 4, 2) := by decide +kernel
theorem dX0_isItsParts_28 : decode cX0_isItsParts 28 = .ok (.aload_n 0, 1) := by decide +kernel
theorem dX0_isItsParts_29 : decode cX0_isItsParts 29 = .ok (.getfield 9, 3) := by decide +kernel
theorem dX0_isItsParts_32 : decode cX0_isItsParts 32 = .ok (.iload_n 1, 1) := by decide +kernel
theorem dX0_isItsParts_33 : decode cX0_isItsParts 33 = .ok (.iaload, 1) := by decide +kernel
theorem dX0_isItsParts_34 : decode cX0_isItsParts 34 = .ok (.aload_n 0, 1) := by decide +kernel
theorem dX0_isItsParts_35 : decode cX0_isItsParts 35 = .ok (.getfield 13, 3) := by decide +kernel
theorem dX0_isItsParts_38 : decode cX0_isItsParts 38 = .ok (.iload_n 1, 1) := by decide +kernel
theorem dX0_isItsParts_39 : decode cX0_isItsParts 39 = .ok (.iaload, 1) := by decide +kernel
theorem dX0_isItsParts_40 : decode cX0_isItsParts 40 = .ok (.aload_n 0, 1) := by decide +kernel
theorem dX0_isItsParts_41 : decode cX0_isItsParts 41 = .ok (.getfield 16, 3) := by decide +kernel
theorem dX0_isItsParts_44 : decode cX0_isItsParts 44 = .ok (.iload_n 1, 1) := by decide +kernel
theorem dX0_isItsParts_45 : decode cX0_isItsParts 45 = .ok (.iaload, 1) := by decide +kernel
theorem dX0_isItsParts_46 : decode cX0_isItsParts 46 = .ok (.invokestatic 215, 3) := by decide +kernel
theorem dX0_isItsParts_49 : decode cX0_isItsParts 49 = .ok (.aload_n 0, 1) := by decide +kernel
theorem dX0_isItsParts_50 : decode cX0_isItsParts 50 = .ok (.getfield 19, 3) := by decide +kernel
theorem dX0_isItsParts_53 : decode cX0_isItsParts 53 = .ok (.iload_n 1, 1) := by decide +kernel
theorem dX0_isItsParts_54 : decode cX0_isItsParts 54 = .ok (.laload, 1) := by decide +kernel
theorem dX0_isItsParts_55 : decode cX0_isItsParts 55 = .ok (.lcmp, 1) := by decide +kernel
theorem dX0_isItsParts_56 : decode cX0_isItsParts 56 = .ok (.ifCond .ne 14, 3) := by decide +kernel
theorem dX0_isItsParts_59 : decode cX0_isItsParts 59 = .ok (.lload 4, 2) := by decide +kernel
theorem dX0_isItsParts_61 : decode cX0_isItsParts 61 = .ok (.lload_n 2, 1) := by decide +kernel
theorem dX0_isItsParts_62 : decode cX0_isItsParts 62 = .ok (.lcmp, 1) := by decide +kernel
theorem dX0_isItsParts_63 : decode cX0_isItsParts 63 = .ok (.ifCond .ne 7, 3) := by decide +kernel
theorem dX0_isItsParts_66 : decode cX0_isItsParts 66 = .ok (.iconst 1, 1) := by decide +kernel
theorem dX0_isItsParts_67 : decode cX0_isItsParts 67 = .ok (.goto 4, 3) := by decide +kernel
theorem dX0_isItsParts_70 : decode cX0_isItsParts 70 = .ok (.iconst 0, 1) := by decide +kernel
theorem dX0_isItsParts_71 : decode cX0_isItsParts 71 = .ok (.ireturn, 1) := by decide +kernel
theorem dX0_isItsDateAndTime_0 : decode cX0_isItsDateAndTime 0 = .ok (.aload_n 0, 1) := by decide +kernel
theorem dX0_isItsDateAndTime_1 : decode cX0_isItsDateAndTime 1 = .ok (.getfield 23, 3) := by decide +kernel
theorem dX0_isItsDateAndTime_4 : decode cX0_isItsDateAndTime 4 = .ok (.iload_n 1, 1) := by decide +kernel
theorem dX0_isItsDateAndTime_5 : decode cX0_isItsDateAndTime 5 = .ok (.laload, 1) := by decide +kernel
theorem dX0_isItsDateAndTime_6 : decode cX0_isItsDateAndTime 6 = .ok (.lstore_n 2, 1) := by decide +kernel
theorem dX0_isItsDateAndTime_7 : decode cX0_isItsDateAndTime 7 = .ok (.lload_n 2, 1) := by decide +kernel
theorem dX0_isItsDateAndTime_8 : decode cX0_isItsDateAndTime 8 = .ok (.ldc2_w 95, 3) := by decide +kernel
theorem dX0_isItsDateAndTime_11 : decode cX0_isItsDateAndTime 11 = .ok (.ldiv, 1) := by decide +kernel
theorem dX0_isItsDateAndTime_12 : decode cX0_isItsDateAndTime 12 = .ok (.ldc2_w 95, 3) := by decide +kernel
theorem dX0_isItsDateAndTime_15 : decode cX0_isItsDateAndTime 15 = .ok (.lmul, 1) := by decide +kernel
theorem dX0_isItsDateAndTime_16 : decode cX0_isItsDateAndTime 16 = .ok (.lload_n 2, 1) := by decide +kernel
theorem dX0_isItsDateAndTime_17 : decode cX0_isItsDateAndTime 17 = .ok (.invokestatic 97, 3) := by decide +kernel
theorem dX0_isItsDateAndTime_20 : decode cX0_isItsDateAndTime 20 = .ok (.i2l, 1) := by decide +kernel
theorem dX0_isItsDateAndTime_21 : decode cX0_isItsDateAndTime 21 = .ok (.ladd, 1) := by decide +kernel
theorem dX0_isItsDateAndTime_22 : decode cX0_isItsDateAndTime 22 = .ok (.lstore 4, 2) := by decide +kernel
theorem dX0_isItsDateAndTime_24 : decode cX0_isItsDateAndTime 24 = .ok (.aload_n 0, 1) := by decide +kernel
theorem dX0_isItsDateAndTime_25 : decode cX0_isItsDateAndTime 25 = .ok (.getfield 9, 3) := by decide +kernel
theorem dX0_isItsDateAndTime_28 : decode cX0_isItsDateAndTime 28 = .ok (.iload_n 1, 1) := by decide +kernel
theorem dX0_isItsDateAndTime_29 : decode cX0_isItsDateAndTime 29 = .ok (.iaload, 1) := by decide +kernel
theorem dX0_isItsDateAndTime_30 : decode cX0_isItsDateAndTime 30 = .ok (.invokestatic 26, 3) := by decide +kernel
theorem dX0_isItsDateAndTime_33 : decode cX0_isItsDateAndTime 33 = .ok (.aload_n 0, 1) := by decide +kernel
theorem dX0_isItsDateAndTime_34 : decode cX0_isItsDateAndTime 34 = .ok (.iload_n 1, 1) := by decide +kernel
theorem dX0_isItsDateAndTime_35 : decode cX0_isItsDateAndTime 35 = .ok (.invokevirtual 126, 3) := by decide +kernel
theorem dX0_isItsDateAndTime_38 : decode cX0_isItsDateAndTime 38 = .ok (.i2l, 1) := by decide +kernel
theorem dX0_isItsDateAndTime_39 : decode cX0_isItsDateAndTime 39 = .ok (.ladd, 1) := by decide +kernel
theorem dX0_isItsDateAndTime_40 : decode cX0_isItsDateAndTime 40 = .ok (.lconst 1, 1) := by decide +kernel
theorem dX0_isItsDateAndTime_41 : decode cX0_isItsDateAndTime 41 = .ok (.lsub, 1) := by decide +kernel
theorem dX0_isItsDateAndTime_42 : decode cX0_isItsDateAndTime 42 = .ok (.aload_n 0, 1) := by decide +kernel
theorem dX0_isItsDateAndTime_43 : decode cX0_isItsDateAndTime 43 = .ok (.getfield 19, 3) := by decide +kernel
theorem dX0_isItsDateAndTime_46 : decode cX0_isItsDateAndTime 46 = .ok (.iload_n 1, 1) := by decide +kernel
theorem dX0_isItsDateAndTime_47 : decode cX0_isItsDateAndTime 47 = .ok (.laload, 1) := by decide +kernel
theorem dX0_isItsDateAndTime_48 : decode cX0_isItsDateAndTime 48 = .ok (.lcmp, 1) := by decide +kernel
theorem dX0_isItsDateAndTime_49 : decode cX0_isItsDateAndTime 49 = .ok (.ifCond .ne 14, 3) := by decide +kernel
theorem dX0_isItsDateAndTime_52 : decode cX0_isItsDateAndTime 52 = .ok (.lload 4, 2) := by decide +kernel
theorem dX0_isItsDateAndTime_54 : decode cX0_isItsDateAndTime 54 = .ok (.lload_n 2, 1) := by decide +kernel
theorem dX0_isItsDateAndTime_55 : decode cX0_isItsDateAndTime 55 = .ok (.lcmp, 1) := by decide +kernel
theorem dX0_isItsDateAndTime_56 : decode cX0_isItsDateAndTime 56 = .ok (.ifCond .ne 7, 3) := by decide +kernel
theorem dX0_isItsDateAndTime_59 : decode cX0_isItsDateAndTime 59 = .ok (.iconst 1, 1) := by decide +kernel
theorem dX0_isItsDateAndTime_60 : decode cX0_isItsDateAndTime 60 = .ok (.goto 4, 3) := by decide +kernel
theorem dX0_isItsDateAndTime_63 : decode cX0_isItsDateAndTime 63 = .ok (.iconst 0, 1) := by decide +kernel
theorem dX0_isItsDateAndTime_64 : decode cX0_isItsDateAndTime 64 = .ok (.ireturn, 1) := by decide +kernel
theorem dX0_isBackFromNano_0 : decode cX0_isBackFromNano 0 = .ok (.aload_n 0, 1) := by decide +kernel
theorem dX0_isBackFromNano_1 : decode cX0_isBackFromNano 1 = .ok (.getfield 23, 3) := by decide +kernel
theorem dX0_isBackFromNano_4 : decode cX0_isBackFromNano 4 = .ok (.iload_n 1, 1) := by decide +kernel
theorem dX0_isBackFromNano_5 : decode cX0_isBackFromNano 5 = .ok (.laload, 1) := by decide +kernel
theorem dX0_isBackFromNano_6 : decode cX0_isBackFromNano 6 = .ok (.lconst 1, 1) := by decide +kernel
theorem dX0_isBackFromNano_7 : decode cX0_isBackFromNano 7 = .ok (.ladd, 1) := by decide +kernel
theorem dX0_isBackFromNano_8 : decode cX0_isBackFromNano 8 = .ok (.lstore_n 2, 1) := by decide +kernel
theorem dX0_isBackFromNano_9 : decode cX0_isBackFromNano 9 = .ok (.aload_n 0, 1) := by decide +kernel
theorem dX0_isBackFromNano_10 : decode cX0_isBackFromNano 10 = .ok (.getfield 19, 3) := by decide +kernel
theorem dX0_isBackFromNano_13 : decode cX0_isBackFromNano 13 = .ok (.iload_n 1, 1) := by decide +kernel
theorem dX0_isBackFromNano_14 : decode cX0_isBackFromNano 14 = .ok (.laload, 1) := by decide +kernel
theorem dX0_isBackFromNano_15 : decode cX0_isBackFromNano 15 = .ok (.lload_n 2, 1) := by decide +kernel
theorem dX0_isBackFromNano_16 : decode cX0_isBackFromNano 16 = .ok (.ldc2_w 257, 3) := by decide +kernel
theorem dX0_isBackFromNano_19 : decode cX0_isBackFromNano 19 = .ok (.invokestatic 242, 3) := by decide +kernel
theorem dX0_isBackFromNano_22 : decode cX0_isBackFromNano 22 = .ok (.ladd, 1) := by decide +kernel
theorem dX0_isBackFromNano_23 : decode cX0_isBackFromNano 23 = .ok (.lstore 4, 2) := by decide +kernel
theorem dX0_isBackFromNano_25 : decode cX0_isBackFromNano 25 = .ok (.lload 4, 2) := by decide +kernel
theorem dX0_isBackFromNano_27 : decode cX0_isBackFromNano 27 = .ok (.ldc2_w 223, 3) := by decide +kernel
theorem dX0_isBackFromNano_30 : decode cX0_isBackFromNano 30 = .ok (.lcmp, 1) := by decide +kernel
theorem dX0_isBackFromNano_31 : decode cX0_isBackFromNano 31 = .ok (.ifCond .le 5, 3) := by decide +kernel
theorem dX0_isBackFromNano_34 : decode cX0_isBackFromNano 34 = .ok (.iconst 1, 1) := by decide +kernel
theorem dX0_isBackFromNano_35 : decode cX0_isBackFromNano 35 = .ok (.ireturn, 1) := by decide +kernel
theorem dX0_isBackFromNano_36 : decode cX0_isBackFromNano 36 = .ok (.aload_n 0, 1) := by decide +kernel
theorem dX0_isBackFromNano_37 : decode cX0_isBackFromNano 37 = .ok (.iload_n 1, 1) := by decide +kernel
theorem dX0_isBackFromNano_38 : decode cX0_isBackFromNano 38 = .ok (.lload 4, 2) := by decide +kernel
theorem dX0_isBackFromNano_40 : decode cX0_isBackFromNano 40 = .ok (.lload_n 2, 1) := by decide +kernel
theorem dX0_isBackFromNano_41 : decode cX0_isBackFromNano 41 = .ok (.ldc2_w 257, 3) := by decide +kernel
theorem dX0_isBackFromNano_44 : decode cX0_isBackFromNano 44 = .ok (.invokestatic 249, 3) := by decide +kernel
theorem dX0_isBackFromNano_47 : decode cX0_isBackFromNano 47 = .ok (.lconst 1, 1) := by decide +kernel
theorem dX0_isBackFromNano_48 : decode cX0_isBackFromNano 48 = .ok (.invokevirtual 357, 3) := by decide +kernel
theorem dX0_isBackFromNano_51 : decode cX0_isBackFromNano 51 = .ok (.ireturn, 1) := by decide +kernel
theorem dX0_isBackFromDay_0 : decode cX0_isBackFromDay 0 = .ok (.aload_n 0, 1) := by decide +kernel
theorem dX0_isBackFromDay_1 : decode cX0_isBackFromDay 1 = .ok (.getfield 19, 3) := by decide +kernel
theorem dX0_isBackFromDay_4 : decode cX0_isBackFromDay 4 = .ok (.iload_n 1, 1) := by decide +kernel
theorem dX0_isBackFromDay_5 : decode cX0_isBackFromDay 5 = .ok (.laload, 1) := by decide +kernel
theorem dX0_isBackFromDay_6 : decode cX0_isBackFromDay 6 = .ok (.ldc2_w 223, 3) := by decide +kernel
theorem dX0_isBackFromDay_9 : decode cX0_isBackFromDay 9 = .ok (.lcmp, 1) := by decide +kernel
theorem dX0_isBackFromDay_10 : decode cX0_isBackFromDay 10 = .ok (.ifCond .lt 5, 3) := by decide +kernel
theorem dX0_isBackFromDay_13 : decode cX0_isBackFromDay 13 = .ok (.iconst 1, 1) := by decide +kernel
theorem dX0_isBackFromDay_14 : decode cX0_isBackFromDay 14 = .ok (.ireturn, 1) := by decide +kernel
theorem dX0_isBackFromDay_15 : decode cX0_isBackFromDay 15 = .ok (.aload_n 0, 1) := by decide +kernel
theorem dX0_isBackFromDay_16 : decode cX0_isBackFromDay 16 = .ok (.iload_n 1, 1) := by decide +kernel
theorem dX0_isBackFromDay_17 : decode cX0_isBackFromDay 17 = .ok (.aload_n 0, 1) := by decide +kernel
theorem dX0_isBackFromDay_18 : decode cX0_isBackFromDay 18 = .ok (.getfield 19, 3) := by decide +kernel
theorem dX0_isBackFromDay_21 : decode cX0_isBackFromDay 21 = .ok (.iload_n 1, 1) := by decide +kernel
theorem dX0_isBackFromDay_22 : decode cX0_isBackFromDay 22 = .ok (.laload, 1) := by decide +kernel
theorem dX0_isBackFromDay_23 : decode cX0_isBackFromDay 23 = .ok (.lconst 1, 1) := by decide +kernel
theorem dX0_isBackFromDay_24 : decode cX0_isBackFromDay 24 = .ok (.ladd, 1) := by decide +kernel
theorem dX0_isBackFromDay_25 : decode cX0_isBackFromDay 25 = .ok (.aload_n 0, 1) := by decide +kernel
theorem dX0_isBackFromDay_26 : decode cX0_isBackFromDay 26 = .ok (.getfield 23, 3) := by decide +kernel
theorem dX0_isBackFromDay_29 : decode cX0_isBackFromDay 29 = .ok (.iload_n 1, 1) := by decide +kernel
theorem dX0_isBackFromDay_30 : decode cX0_isBackFromDay 30 = .ok (.laload, 1) := by decide +kernel
theorem dX0_isBackFromDay_31 : decode cX0_isBackFromDay 31 = .ok (.ldc2_w 257, 3) := by decide +kernel
theorem dX0_isBackFromDay_34 : decode cX0_isBackFromDay 34 = .ok (.invokevirtual 357, 3) := by decide +kernel
theorem dX0_isBackFromDay_37 : decode cX0_isBackFromDay 37 = .ok (.ireturn, 1) := by decide +kernel
theorem dX0_isLineLess_0 : decode cX0_isLineLess 0 = .ok (.lload 4, 2) := by decide +kernel
theorem dX0_isLineLess_2 : decode cX0_isLineLess 2 = .ok (.lload 6, 2) := by decide +kernel
theorem dX0_isLineLess_4 : decode cX0_isLineLess 4 = .ok (.lsub, 1) := by decide +kernel
theorem dX0_isLineLess_5 : decode cX0_isLineLess 5 = .ok (.lstore 8, 2) := by decide +kernel
theorem dX0_isLineLess_7 : decode cX0_isLineLess 7 = .ok (.lload_n 2, 1) := by decide +kernel
theorem dX0_isLineLess_8 : decode cX0_isLineLess 8 = .ok (.lload 8, 2) := by decide +kernel
theorem dX0_isLineLess_10 : decode cX0_isLineLess 10 = .ok (.ldc2_w 257, 3) := by decide +kernel
theorem dX0_isLineLess_13 : decode cX0_isLineLess 13 = .ok (.invokestatic 242, 3) := by decide +kernel
theorem dX0_isLineLess_16 : decode cX0_isLineLess 16 = .ok (.ladd, 1) := by decide +kernel
theorem dX0_isLineLess_17 : decode cX0_isLineLess 17 = .ok (.aload_n 0, 1) := by decide +kernel
theorem dX0_isLineLess_18 : decode cX0_isLineLess 18 = .ok (.getfield 19, 3) := by decide +kernel
theorem dX0_isLineLess_21 : decode cX0_isLineLess 21 = .ok (.iload_n 1, 1) := by decide +kernel
theorem dX0_isLineLess_22 : decode cX0_isLineLess 22 = .ok (.laload, 1) := by decide +kernel
theorem dX0_isLineLess_23 : decode cX0_isLineLess 23 = .ok (.lcmp, 1) := by decide +kernel
theorem dX0_isLineLess_24 : decode cX0_isLineLess 24 = .ok (.ifCond .ne 25, 3) := by decide +kernel
theorem dX0_isLineLess_27 : decode cX0_isLineLess 27 = .ok (.lload 8, 2) := by decide +kernel
theorem dX0_isLineLess_29 : decode cX0_isLineLess 29 = .ok (.ldc2_w 257, 3) := by decide +kernel
theorem dX0_isLineLess_32 : decode cX0_isLineLess 32 = .ok (.invokestatic 249, 3) := by decide +kernel
theorem dX0_isLineLess_35 : decode cX0_isLineLess 35 = .ok (.aload_n 0, 1) := by decide +kernel
theorem dX0_isLineLess_36 : decode cX0_isLineLess 36 = .ok (.getfield 23, 3) := by decide +kernel
theorem dX0_isLineLess_39 : decode cX0_isLineLess 39 = .ok (.iload_n 1, 1) := by decide +kernel
theorem dX0_isLineLess_40 : decode cX0_isLineLess 40 = .ok (.laload, 1) := by decide +kernel
theorem dX0_isLineLess_41 : decode cX0_isLineLess 41 = .ok (.lcmp, 1) := by decide +kernel
theorem dX0_isLineLess_42 : decode cX0_isLineLess 42 = .ok (.ifCond .ne 7, 3) := by decide +kernel
theorem dX0_isLineLess_45 : decode cX0_isLineLess 45 = .ok (.iconst 1, 1) := by decide +kernel
theorem dX0_isLineLess_46 : decode cX0_isLineLess 46 = .ok (.goto 4, 3) := by decide +kernel
theorem dX0_isLineLess_49 : decode cX0_isLineLess 49 = .ok (.iconst 0, 1) := by decide +kernel
theorem dX0_isLineLess_50 : decode cX0_isLineLess 50 = .ok (.ireturn, 1) := by decide +kernel
theorem dX0_isBackFromCycle_0 : decode cX0_isBackFromCycle 0 = .ok (.aload_n 0, 1) := by decide +kernel
theorem dX0_isBackFromCycle_1 : decode cX0_isBackFromCycle 1 = .ok (.getfield 9, 3) := by decide +kernel
theorem dX0_isBackFromCycle_4 : decode cX0_isBackFromCycle 4 = .ok (.iload_n 1, 1) := by decide +kernel
theorem dX0_isBackFromCycle_5 : decode cX0_isBackFromCycle 5 = .ok (.iaload, 1) := by decide +kernel
theorem dX0_isBackFromCycle_6 : decode cX0_isBackFromCycle 6 = .ok (.sipush 400, 3) := by decide +kernel
theorem dX0_isBackFromCycle_9 : decode cX0_isBackFromCycle 9 = .ok (.iadd, 1) := by decide +kernel
theorem dX0_isBackFromCycle_10 : decode cX0_isBackFromCycle 10 = .ok (.istore_n 2, 1) := by decide +kernel
theorem dX0_isBackFromCycle_11 : decode cX0_isBackFromCycle 11 = .ok (.iload_n 2, 1) := by decide +kernel
theorem dX0_isBackFromCycle_12 : decode cX0_isBackFromCycle 12 = .ok (.sipush 9999, 3) := by decide +kernel
theorem dX0_isBackFromCycle_15 : decode cX0_isBackFromCycle 15 = .ok (.if_icmp .le 5, 3) := by decide +kernel
theorem dX0_isBackFromCycle_18 : decode cX0_isBackFromCycle 18 = .ok (.iconst 1, 1) := by decide +kernel
theorem dX0_isBackFromCycle_19 : decode cX0_isBackFromCycle 19 = .ok (.ireturn, 1) := by decide +kernel
theorem dX0_isBackFromCycle_20 : decode cX0_isBackFromCycle 20 = .ok (.aload_n 0, 1) := by decide +kernel
theorem dX0_isBackFromCycle_21 : decode cX0_isBackFromCycle 21 = .ok (.getfield 16, 3) := by decide +kernel
theorem dX0_isBackFromCycle_24 : decode cX0_isBackFromCycle 24 = .ok (.iload_n 1, 1) := by decide +kernel
theorem dX0_isBackFromCycle_25 : decode cX0_isBackFromCycle 25 = .ok (.iaload, 1) := by decide +kernel
theorem dX0_isBackFromCycle_26 : decode cX0_isBackFromCycle 26 = .ok (.iload_n 2, 1) := by decide +kernel
theorem dX0_isBackFromCycle_27 : decode cX0_isBackFromCycle 27 = .ok (.aload_n 0, 1) := by decide +kernel
theorem dX0_isBackFromCycle_28 : decode cX0_isBackFromCycle 28 = .ok (.getfield 13, 3) := by decide +kernel
theorem dX0_isBackFromCycle_31 : decode cX0_isBackFromCycle 31 = .ok (.iload_n 1, 1) := by decide +kernel
theorem dX0_isBackFromCycle_32 : decode cX0_isBackFromCycle 32 = .ok (.iaload, 1) := by decide +kernel
theorem dX0_isBackFromCycle_33 : decode cX0_isBackFromCycle 33 = .ok (.invokestatic 132, 3) := by decide +kernel
theorem dX0_isBackFromCycle_36 : decode cX0_isBackFromCycle 36 = .ok (.invokestatic 234, 3) := by decide +kernel
theorem dX0_isBackFromCycle_39 : decode cX0_isBackFromCycle 39 = .ok (.istore_n 3, 1) := by decide +kernel
theorem dX0_isBackFromCycle_40 : decode cX0_isBackFromCycle 40 = .ok (.iload_n 2, 1) := by decide +kernel
theorem dX0_isBackFromCycle_41 : decode cX0_isBackFromCycle 41 = .ok (.aload_n 0, 1) := by decide +kernel
theorem dX0_isBackFromCycle_42 : decode cX0_isBackFromCycle 42 = .ok (.getfield 13, 3) := by decide +kernel
theorem dX0_isBackFromCycle_45 : decode cX0_isBackFromCycle 45 = .ok (.iload_n 1, 1) := by decide +kernel
theorem dX0_isBackFromCycle_46 : decode cX0_isBackFromCycle 46 = .ok (.iaload, 1) := by decide +kernel
theorem dX0_isBackFromCycle_47 : decode cX0_isBackFromCycle 47 = .ok (.iload_n 3, 1) := by decide +kernel
theorem dX0_isBackFromCycle_48 : decode cX0_isBackFromCycle 48 = .ok (.invokestatic 215, 3) := by decide +kernel
theorem dX0_isBackFromCycle_51 : decode cX0_isBackFromCycle 51 = .ok (.ldc2_w 273, 3) := by decide +kernel
theorem dX0_isBackFromCycle_54 : decode cX0_isBackFromCycle 54 = .ok (.lsub, 1) := by decide +kernel
theorem dX0_isBackFromCycle_55 : decode cX0_isBackFromCycle 55 = .ok (.aload_n 0, 1) := by decide +kernel
theorem dX0_isBackFromCycle_56 : decode cX0_isBackFromCycle 56 = .ok (.getfield 19, 3) := by decide +kernel
theorem dX0_isBackFromCycle_59 : decode cX0_isBackFromCycle 59 = .ok (.iload_n 1, 1) := by decide +kernel
theorem dX0_isBackFromCycle_60 : decode cX0_isBackFromCycle 60 = .ok (.laload, 1) := by decide +kernel
theorem dX0_isBackFromCycle_61 : decode cX0_isBackFromCycle 61 = .ok (.lcmp, 1) := by decide +kernel
theorem dX0_isBackFromCycle_62 : decode cX0_isBackFromCycle 62 = .ok (.ifCond .ne 7, 3) := by decide +kernel
theorem dX0_isBackFromCycle_65 : decode cX0_isBackFromCycle 65 = .ok (.iconst 1, 1) := by decide +kernel
theorem dX0_isBackFromCycle_66 : decode cX0_isBackFromCycle 66 = .ok (.goto 4, 3) := by decide +kernel
theorem dX0_isBackFromCycle_69 : decode cX0_isBackFromCycle 69 = .ok (.iconst 0, 1) := by decide +kernel
theorem dX0_isBackFromCycle_70 : decode cX0_isBackFromCycle 70 = .ok (.ireturn, 1) := by decide +kernel
theorem dX0_isCutWell_0 : decode cX0_isCutWell 0 = .ok (.iconst 0, 1) := by decide +kernel
theorem dX0_isCutWell_1 : decode cX0_isCutWell 1 = .ok (.istore_n 2, 1) := by decide +kernel
theorem dX0_isCutWell_2 : decode cX0_isCutWell 2 = .ok (.iload_n 2, 1) := by decide +kernel
theorem dX0_isCutWell_3 : decode cX0_isCutWell 3 = .ok (.bipush 7, 2) := by decide +kernel
theorem dX0_isCutWell_5 : decode cX0_isCutWell 5 = .ok (.if_icmp .gt 33, 3) := by decide +kernel
theorem dX0_isCutWell_8 : decode cX0_isCutWell 8 = .ok (.lload_n 0, 1) := by decide +kernel
theorem dX0_isCutWell_9 : decode cX0_isCutWell 9 = .ok (.iload_n 2, 1) := by decide +kernel
theorem dX0_isCutWell_10 : decode cX0_isCutWell 10 = .ok (.invokestatic 100, 3) := by decide +kernel
theorem dX0_isCutWell_13 : decode cX0_isCutWell 13 = .ok (.lstore_n 3, 1) := by decide +kernel
theorem dX0_isCutWell_14 : decode cX0_isCutWell 14 = .ok (.lload_n 3, 1) := by decide +kernel
theorem dX0_isCutWell_15 : decode cX0_isCutWell 15 = .ok (.lload_n 0, 1) := by decide +kernel
theorem dX0_isCutWell_16 : decode cX0_isCutWell 16 = .ok (.lcmp, 1) := by decide +kernel
theorem dX0_isCutWell_17 : decode cX0_isCutWell 17 = .ok (.ifCond .gt 13, 3) := by decide +kernel
theorem dX0_isCutWell_20 : decode cX0_isCutWell 20 = .ok (.lload_n 3, 1) := by decide +kernel
theorem dX0_isCutWell_21 : decode cX0_isCutWell 21 = .ok (.iload_n 2, 1) := by decide +kernel
theorem dX0_isCutWell_22 : decode cX0_isCutWell 22 = .ok (.invokestatic 100, 3) := by decide +kernel
theorem dX0_isCutWell_25 : decode cX0_isCutWell 25 = .ok (.lload_n 3, 1) := by decide +kernel
theorem dX0_isCutWell_26 : decode cX0_isCutWell 26 = .ok (.lcmp, 1) := by decide +kernel
theorem dX0_isCutWell_27 : decode cX0_isCutWell 27 = .ok (.ifCond .eq 5, 3) := by decide +kernel
theorem dX0_isCutWell_30 : decode cX0_isCutWell 30 = .ok (.iconst 0, 1) := by decide +kernel
theorem dX0_isCutWell_31 : decode cX0_isCutWell 31 = .ok (.ireturn, 1) := by decide +kernel
theorem dX0_isCutWell_32 : decode cX0_isCutWell 32 = .ok (.iinc 2 1, 3) := by decide +kernel
theorem dX0_isCutWell_35 : decode cX0_isCutWell 35 = .ok (.goto (-33), 3) := by decide +kernel
theorem dX0_isCutWell_38 : decode cX0_isCutWell 38 = .ok (.iconst 1, 1) := by decide +kernel
theorem dX0_isCutWell_39 : decode cX0_isCutWell 39 = .ok (.ireturn, 1) := by decide +kernel
theorem dX0_isSoundPair_0 : decode cX0_isSoundPair 0 = .ok (.aload_n 0, 1) := by decide +kernel
theorem dX0_isSoundPair_1 : decode cX0_isSoundPair 1 = .ok (.iload_n 1, 1) := by decide +kernel
theorem dX0_isSoundPair_2 : decode cX0_isSoundPair 2 = .ok (.iload_n 2, 1) := by decide +kernel
theorem dX0_isSoundPair_3 : decode cX0_isSoundPair 3 = .ok (.invokevirtual 151, 3) := by decide +kernel
theorem dX0_isSoundPair_6 : decode cX0_isSoundPair 6 = .ok (.istore_n 3, 1) := by decide +kernel
theorem dX0_isSoundPair_7 : decode cX0_isSoundPair 7 = .ok (.aload_n 0, 1) := by decide +kernel
theorem dX0_isSoundPair_8 : decode cX0_isSoundPair 8 = .ok (.iload_n 2, 1) := by decide +kernel
theorem dX0_isSoundPair_9 : decode cX0_isSoundPair 9 = .ok (.iload_n 1, 1) := by decide +kernel
theorem dX0_isSoundPair_10 : decode cX0_isSoundPair 10 = .ok (.invokevirtual 151, 3) := by decide +kernel
theorem dX0_isSoundPair_13 : decode cX0_isSoundPair 13 = .ok (.istore 4, 2) := by decide +kernel
theorem dX0_isSoundPair_15 : decode cX0_isSoundPair 15 = .ok (.iload_n 3, 1) := by decide +kernel
theorem dX0_isSoundPair_16 : decode cX0_isSoundPair 16 = .ok (.iload 4, 2) := by decide +kernel
theorem dX0_isSoundPair_18 : decode cX0_isSoundPair 18 = .ok (.ineg, 1) := by decide +kernel
theorem dX0_isSoundPair_19 : decode cX0_isSoundPair 19 = .ok (.if_icmp .ne 46, 3) := by decide +kernel
theorem dX0_isSoundPair_22 : decode cX0_isSoundPair 22 = .ok (.aload_n 0, 1) := by decide +kernel
theorem dX0_isSoundPair_23 : decode cX0_isSoundPair 23 = .ok (.iload_n 1, 1) := by decide +kernel
theorem dX0_isSoundPair_24 : decode cX0_isSoundPair 24 = .ok (.iload_n 2, 1) := by decide +kernel
theorem dX0_isSoundPair_25 : decode cX0_isSoundPair 25 = .ok (.invokevirtual 154, 3) := by decide +kernel
theorem dX0_isSoundPair_28 : decode cX0_isSoundPair 28 = .ok (.iload_n 3, 1) := by decide +kernel
theorem dX0_isSoundPair_29 : decode cX0_isSoundPair 29 = .ok (.ifCond .ne 7, 3) := by decide +kernel
theorem dX0_isSoundPair_32 : decode cX0_isSoundPair 32 = .ok (.iconst 1, 1) := by decide +kernel
theorem dX0_isSoundPair_33 : decode cX0_isSoundPair 33 = .ok (.goto 4, 3) := by decide +kernel
theorem dX0_isSoundPair_36 : decode cX0_isSoundPair 36 = .ok (.iconst 0, 1) := by decide +kernel
theorem dX0_isSoundPair_37 : decode cX0_isSoundPair 37 = .ok (.if_icmp .ne 28, 3) := by decide +kernel
theorem dX0_isSoundPair_40 : decode cX0_isSoundPair 40 = .ok (.aload_n 0, 1) := by decide +kernel
theorem dX0_isSoundPair_41 : decode cX0_isSoundPair 41 = .ok (.iload_n 1, 1) := by decide +kernel
theorem dX0_isSoundPair_42 : decode cX0_isSoundPair 42 = .ok (.iload_n 2, 1) := by decide +kernel
theorem dX0_isSoundPair_43 : decode cX0_isSoundPair 43 = .ok (.bipush 7, 2) := by decide +kernel
theorem dX0_isSoundPair_45 : decode cX0_isSoundPair 45 = .ok (.invokevirtual 189, 3) := by decide +kernel
theorem dX0_isSoundPair_48 : decode cX0_isSoundPair 48 = .ok (.aload_n 0, 1) := by decide +kernel
theorem dX0_isSoundPair_49 : decode cX0_isSoundPair 49 = .ok (.iload_n 2, 1) := by decide +kernel
theorem dX0_isSoundPair_50 : decode cX0_isSoundPair 50 = .ok (.iload_n 1, 1) := by decide +kernel
theorem dX0_isSoundPair_51 : decode cX0_isSoundPair 51 = .ok (.bipush 7, 2) := by decide +kernel
theorem dX0_isSoundPair_53 : decode cX0_isSoundPair 53 = .ok (.invokevirtual 189, 3) := by decide +kernel
theorem dX0_isSoundPair_56 : decode cX0_isSoundPair 56 = .ok (.lneg, 1) := by decide +kernel
theorem dX0_isSoundPair_57 : decode cX0_isSoundPair 57 = .ok (.lcmp, 1) := by decide +kernel
theorem dX0_isSoundPair_58 : decode cX0_isSoundPair 58 = .ok (.ifCond .ne 7, 3) := by decide +kernel
theorem dX0_isSoundPair_61 : decode cX0_isSoundPair 61 = .ok (.iconst 1, 1) := by decide +kernel
theorem dX0_isSoundPair_62 : decode cX0_isSoundPair 62 = .ok (.goto 4, 3) := by decide +kernel
theorem dX0_isSoundPair_65 : decode cX0_isSoundPair 65 = .ok (.iconst 0, 1) := by decide +kernel
theorem dX0_isSoundPair_66 : decode cX0_isSoundPair 66 = .ok (.ireturn, 1) := by decide +kernel
theorem dX1_init_0 : decode cX1_init 0 = .ok (.aload_n 0, 1) := by decide +kernel
theorem dX1_init_1 : decode cX1_init 1 = .ok (.invokespecial 1, 3) := by decide +kernel
theorem dX1_init_4 : decode cX1_init 4 = .ok (.return_, 1) := by decide +kernel
