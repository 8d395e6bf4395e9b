theorem dL_hand_0 : decode cL_hand 0 = .ok (.aload 5, 2) := by decide +kernel
theorem dL_hand_2 : decode cL_hand 2 = .ok (.aload_n 0, 1) := by decide +kernel
theorem dL_hand_3 : decode cL_hand 3 = .ok (.iload_n 1, 1) := by decide +kernel
theorem dL_hand_4 : decode cL_hand 4 = .ok (.iload_n 2, 1) := by decide +kernel
theorem dL_hand_5 : decode cL_hand 5 = .ok (.iload_n 3, 1) := by decide +kernel
theorem dL_hand_6 : decode cL_hand 6 = .ok (.iload 4, 2) := by decide +kernel
theorem dL_hand_8 : decode cL_hand 8 = .ok (.invokevirtual 7, 3) := by decide +kernel
theorem dL_hand_11 : decode cL_hand 11 = .ok (.i2l, 1) := by decide +kernel
theorem dL_hand_12 : decode cL_hand 12 = .ok (.putfield 13, 3) := by decide +kernel
theorem dL_hand_15 : decode cL_hand 15 = .ok (.goto 7, 3) := by decide +kernel
theorem dL_hand_18 : decode cL_hand 18 = .ok (.astore 6, 2) := by decide +kernel
theorem dL_hand_20 : decode cL_hand 20 = .ok (.iconst 1, 1) := by decide +kernel
theorem dL_hand_21 : decode cL_hand 21 = .ok (.ireturn, 1) := by decide +kernel
theorem dL_hand_22 : decode cL_hand 22 = .ok (.iconst 0, 1) := by decide +kernel
theorem dL_hand_23 : decode cL_hand 23 = .ok (.ireturn, 1) := by decide +kernel
theorem dL_of_0 : decode cL_of 0 = .ok (.aload 6, 2) := by decide +kernel
theorem dL_of_2 : decode cL_of 2 = .ok (.aload_n 0, 1) := by decide +kernel
theorem dL_of_3 : decode cL_of 3 = .ok (.iload_n 1, 1) := by decide +kernel
theorem dL_of_4 : decode cL_of 4 = .ok (.iload_n 2, 1) := by decide +kernel
theorem dL_of_5 : decode cL_of 5 = .ok (.iload_n 3, 1) := by decide +kernel
theorem dL_of_6 : decode cL_of 6 = .ok (.iload 4, 2) := by decide +kernel
theorem dL_of_8 : decode cL_of 8 = .ok (.iload 5, 2) := by decide +kernel
theorem dL_of_10 : decode cL_of 10 = .ok (.invokevirtual 21, 3) := by decide +kernel
theorem dL_of_13 : decode cL_of 13 = .ok (.i2l, 1) := by decide +kernel
theorem dL_of_14 : decode cL_of 14 = .ok (.putfield 13, 3) := by decide +kernel
theorem dL_of_17 : decode cL_of 17 = .ok (.goto 11, 3) := by decide +kernel
theorem dL_of_20 : decode cL_of 20 = .ok (.astore 7, 2) := by decide +kernel
theorem dL_of_22 : decode cL_of 22 = .ok (.iconst 1, 1) := by decide +kernel
theorem dL_of_23 : decode cL_of 23 = .ok (.ireturn, 1) := by decide +kernel
theorem dL_of_24 : decode cL_of 24 = .ok (.astore 7, 2) := by decide +kernel
theorem dL_of_26 : decode cL_of 26 = .ok (.iconst 2, 1) := by decide +kernel
theorem dL_of_27 : decode cL_of 27 = .ok (.ireturn, 1) := by decide +kernel
theorem dL_of_28 : decode cL_of 28 = .ok (.iconst 0, 1) := by decide +kernel
theorem dL_of_29 : decode cL_of 29 = .ok (.ireturn, 1) := by decide +kernel
theorem dL_ofDay_0 : decode cL_ofDay 0 = .ok (.aload_n 3, 1) := by decide +kernel
theorem dL_ofDay_1 : decode cL_ofDay 1 = .ok (.aload_n 0, 1) := by decide +kernel
theorem dL_ofDay_2 : decode cL_ofDay 2 = .ok (.iload_n 1, 1) := by decide +kernel
theorem dL_ofDay_3 : decode cL_ofDay 3 = .ok (.iload_n 2, 1) := by decide +kernel
theorem dL_ofDay_4 : decode cL_ofDay 4 = .ok (.invokevirtual 27, 3) := by decide +kernel
theorem dL_ofDay_7 : decode cL_ofDay 7 = .ok (.i2l, 1) := by decide +kernel
theorem dL_ofDay_8 : decode cL_ofDay 8 = .ok (.putfield 13, 3) := by decide +kernel
theorem dL_ofDay_11 : decode cL_ofDay 11 = .ok (.goto 11, 3) := by decide +kernel
theorem dL_ofDay_14 : decode cL_ofDay 14 = .ok (.astore 4, 2) := by decide +kernel
theorem dL_ofDay_16 : decode cL_ofDay 16 = .ok (.iconst 1, 1) := by decide +kernel
theorem dL_ofDay_17 : decode cL_ofDay 17 = .ok (.ireturn, 1) := by decide +kernel
theorem dL_ofDay_18 : decode cL_ofDay 18 = .ok (.astore 4, 2) := by decide +kernel
theorem dL_ofDay_20 : decode cL_ofDay 20 = .ok (.iconst 2, 1) := by decide +kernel
theorem dL_ofDay_21 : decode cL_ofDay 21 = .ok (.ireturn, 1) := by decide +kernel
theorem dL_ofDay_22 : decode cL_ofDay 22 = .ok (.iconst 0, 1) := by decide +kernel
theorem dL_ofDay_23 : decode cL_ofDay 23 = .ok (.ireturn, 1) := by decide +kernel
theorem dL_copy_0 : decode cL_copy 0 = .ok (.aload_n 3, 1) := by decide +kernel
theorem dL_copy_1 : decode cL_copy 1 = .ok (.aload_n 0, 1) := by decide +kernel
theorem dL_copy_2 : decode cL_copy 2 = .ok (.iload_n 1, 1) := by decide +kernel
theorem dL_copy_3 : decode cL_copy 3 = .ok (.iload_n 2, 1) := by decide +kernel
theorem dL_copy_4 : decode cL_copy 4 = .ok (.invokevirtual 31, 3) := by decide +kernel
theorem dL_copy_7 : decode cL_copy 7 = .ok (.i2l, 1) := by decide +kernel
theorem dL_copy_8 : decode cL_copy 8 = .ok (.putfield 13, 3) := by decide +kernel
theorem dL_copy_11 : decode cL_copy 11 = .ok (.goto 7, 3) := by decide +kernel
theorem dL_copy_14 : decode cL_copy 14 = .ok (.astore 4, 2) := by decide +kernel
theorem dL_copy_16 : decode cL_copy 16 = .ok (.iconst 1, 1) := by decide +kernel
theorem dL_copy_17 : decode cL_copy 17 = .ok (.ireturn, 1) := by decide +kernel
theorem dL_copy_18 : decode cL_copy 18 = .ok (.iconst 0, 1) := by decide +kernel
theorem dL_copy_19 : decode cL_copy 19 = .ok (.ireturn, 1) := by decide +kernel
theorem dL_takeDate_0 : decode cL_takeDate 0 = .ok (.aload_n 3, 1) := by decide +kernel
theorem dL_takeDate_1 : decode cL_takeDate 1 = .ok (.aload_n 0, 1) := by decide +kernel
theorem dL_takeDate_2 : decode cL_takeDate 2 = .ok (.iload_n 1, 1) := by decide +kernel
theorem dL_takeDate_3 : decode cL_takeDate 3 = .ok (.iload_n 2, 1) := by decide +kernel
theorem dL_takeDate_4 : decode cL_takeDate 4 = .ok (.invokevirtual 34, 3) := by decide +kernel
theorem dL_takeDate_7 : decode cL_takeDate 7 = .ok (.i2l, 1) := by decide +kernel
theorem dL_takeDate_8 : decode cL_takeDate 8 = .ok (.putfield 13, 3) := by decide +kernel
theorem dL_takeDate_11 : decode cL_takeDate 11 = .ok (.goto 7, 3) := by decide +kernel
theorem dL_takeDate_14 : decode cL_takeDate 14 = .ok (.astore 4, 2) := by decide +kernel
theorem dL_takeDate_16 : decode cL_takeDate 16 = .ok (.iconst 1, 1) := by decide +kernel
theorem dL_takeDate_17 : decode cL_takeDate 17 = .ok (.ireturn, 1) := by decide +kernel
theorem dL_takeDate_18 : decode cL_takeDate 18 = .ok (.iconst 0, 1) := by decide +kernel
theorem dL_takeDate_19 : decode cL_takeDate 19 = .ok (.ireturn, 1) := by decide +kernel
theorem dL_takeTime_0 : decode cL_takeTime 0 = .ok (.aload_n 3, 1) := by decide +kernel
theorem dL_takeTime_1 : decode cL_takeTime 1 = .ok (.aload_n 0, 1) := by decide +kernel
theorem dL_takeTime_2 : decode cL_takeTime 2 = .ok (.iload_n 1, 1) := by decide +kernel
theorem dL_takeTime_3 : decode cL_takeTime 3 = .ok (.iload_n 2, 1) := by decide +kernel
theorem dL_takeTime_4 : decode cL_takeTime 4 = .ok (.invokevirtual 37, 3) := by decide +kernel
theorem dL_takeTime_7 : decode cL_takeTime 7 = .ok (.i2l, 1) := by decide +kernel
theorem dL_takeTime_8 : decode cL_takeTime 8 = .ok (.putfield 13, 3) := by decide +kernel
theorem dL_takeTime_11 : decode cL_takeTime 11 = .ok (.goto 7, 3) := by decide +kernel
theorem dL_takeTime_14 : decode cL_takeTime 14 = .ok (.astore 4, 2) := by decide +kernel
theorem dL_takeTime_16 : decode cL_takeTime 16 = .ok (.iconst 1, 1) := by decide +kernel
theorem dL_takeTime_17 : decode cL_takeTime 17 = .ok (.ireturn, 1) := by decide +kernel
theorem dL_takeTime_18 : decode cL_takeTime 18 = .ok (.iconst 0, 1) := by decide +kernel
theorem dL_takeTime_19 : decode cL_takeTime 19 = .ok (.ireturn, 1) := by decide +kernel
theorem dL_withYear_0 : decode cL_withYear 0 = .ok (.aload_n 3, 1) := by decide +kernel
theorem dL_withYear_1 : decode cL_withYear 1 = .ok (.aload_n 0, 1) := by decide +kernel
theorem dL_withYear_2 : decode cL_withYear 2 = .ok (.iload_n 1, 1) := by decide +kernel
theorem dL_withYear_3 : decode cL_withYear 3 = .ok (.iload_n 2, 1) := by decide +kernel
theorem dL_withYear_4 : decode cL_withYear 4 = .ok (.invokevirtual 40, 3) := by decide +kernel
theorem dL_withYear_7 : decode cL_withYear 7 = .ok (.i2l, 1) := by decide +kernel
theorem dL_withYear_8 : decode cL_withYear 8 = .ok (.putfield 13, 3) := by decide +kernel
theorem dL_withYear_11 : decode cL_withYear 11 = .ok (.goto 11, 3) := by decide +kernel
theorem dL_withYear_14 : decode cL_withYear 14 = .ok (.astore 4, 2) := by decide +kernel
theorem dL_withYear_16 : decode cL_withYear 16 = .ok (.iconst 1, 1) := by decide +kernel
theorem dL_withYear_17 : decode cL_withYear 17 = .ok (.ireturn, 1) := by decide +kernel
theorem dL_withYear_18 : decode cL_withYear 18 = .ok (.astore 4, 2) := by decide +kernel
theorem dL_withYear_20 : decode cL_withYear 20 = .ok (.iconst 2, 1) := by decide +kernel
theorem dL_withYear_21 : decode cL_withYear 21 = .ok (.ireturn, 1) := by decide +kernel
theorem dL_withYear_22 : decode cL_withYear 22 = .ok (.iconst 0, 1) := by decide +kernel
theorem dL_withYear_23 : decode cL_withYear 23 = .ok (.ireturn, 1) := by decide +kernel
theorem dL_withMonth_0 : decode cL_withMonth 0 = .ok (.aload_n 3, 1) := by decide +kernel
theorem dL_withMonth_1 : decode cL_withMonth 1 = .ok (.aload_n 0, 1) := by decide +kernel
theorem dL_withMonth_2 : decode cL_withMonth 2 = .ok (.iload_n 1, 1) := by decide +kernel
theorem dL_withMonth_3 : decode cL_withMonth 3 = .ok (.iload_n 2, 1) := by decide +kernel
theorem dL_withMonth_4 : decode cL_withMonth 4 = .ok (.invokevirtual 43, 3) := by decide +kernel
theorem dL_withMonth_7 : decode cL_withMonth 7 = .ok (.i2l, 1) := by decide +kernel
theorem dL_withMonth_8 : decode cL_withMonth 8 = .ok (.putfield 13, 3) := by decide +kernel
theorem dL_withMonth_11 : decode cL_withMonth 11 = .ok (.goto 11, 3) := by decide +kernel
theorem dL_withMonth_14 : decode cL_withMonth 14 = .ok (.astore 4, 2) := by decide +kernel
theorem dL_withMonth_16 : decode cL_withMonth 16 = .ok (.iconst 1, 1) := by decide +kernel
theorem dL_withMonth_17 : decode cL_withMonth 17 = .ok (.ireturn, 1) := by decide +kernel
theorem dL_withMonth_18 : decode cL_withMonth 18 = .ok (.astore 4, 2) := by decide +kernel
theorem dL_withMonth_20 : decode cL_withMonth 20 = .ok (.iconst 2, 1) := by decide +kernel
theorem dL_withMonth_21 : decode cL_withMonth 21 = .ok (.ireturn, 1) := by decide +kernel
theorem dL_withMonth_22 : decode cL_withMonth 22 = .ok (.iconst 0, 1) := by decide +kernel
theorem dL_withMonth_23 : decode cL_withMonth 23 = .ok (.ireturn, 1) := by decide +kernel
theorem dL_withDayOfMonth_0 : decode cL_withDayOfMonth 0 = .ok (.aload_n 3, 1) := by decide +kernel
theorem dL_withDayOfMonth_1 : decode cL_withDayOfMonth 1 = .ok (.aload_n 0, 1) := by decide +kernel
theorem dL_withDayOfMonth_2 : decode cL_withDayOfMonth 2 = .ok (.iload_n 1, 1) := by decide +kernel
theorem dL_withDayOfMonth_3 : decode cL_withDayOfMonth 3 = .ok (.iload_n 2, 1) := by decide +kernel
theorem dL_withDayOfMonth_4 : decode cL_withDayOfMonth 4 = .ok (.invokevirtual 46, 3) := by decide +kernel
theorem dL_withDayOfMonth_7 : decode cL_withDayOfMonth 7 = .ok (.i2l, 1) := by decide +kernel
theorem dL_withDayOfMonth_8 : decode cL_withDayOfMonth 8 = .ok (.putfield 13, 3) := by decide +kernel
theorem dL_withDayOfMonth_11 : decode cL_withDayOfMonth 11 = .ok (.goto 11, 3) := by decide +kernel
theorem dL_withDayOfMonth_14 : decode cL_withDayOfMonth 14 = .ok (.astore 4, 2) := by decide +kernel
theorem dL_withDayOfMonth_16 : decode cL_withDayOfMonth 16 = .ok (.iconst 1, 1) := by decide +kernel
theorem dL_withDayOfMonth_17 : decode cL_withDayOfMonth 17 = .ok (.ireturn, 1) := by decide +kernel
theorem dL_withDayOfMonth_18 : decode cL_withDayOfMonth 18 = .ok (.astore 4, 2) := by decide +kernel
theorem dL_withDayOfMonth_20 : decode cL_withDayOfMonth 20 = .ok (.iconst 2, 1) := by decide +kernel
theorem dL_withDayOfMonth_21 : decode cL_withDayOfMonth 21 = .ok (.ireturn, 1) := by decide +kernel
theorem dL_withDayOfMonth_22 : decode cL_withDayOfMonth 22 = .ok (.iconst 0, 1) := by decide +kernel
theorem dL_withDayOfMonth_23 : decode cL_withDayOfMonth 23 = .ok (.ireturn, 1) := by decide +kernel
theorem dL_withDayOfYear_0 : decode cL_withDayOfYear 0 = .ok (.aload_n 3, 1) := by decide +kernel
theorem dL_withDayOfYear_1 : decode cL_withDayOfYear 1 = .ok (.aload_n 0, 1) := by decide +kernel
theorem dL_withDayOfYear_2 : decode cL_withDayOfYear 2 = .ok (.iload_n 1, 1) := by decide +kernel
theorem dL_withDayOfYear_3 : decode cL_withDayOfYear 3 = .ok (.iload_n 2, 1) := by decide +kernel
theorem dL_withDayOfYear_4 : decode cL_withDayOfYear 4 = .ok (.invokevirtual 49, 3) := by decide +kernel
theorem dL_withDayOfYear_7 : decode cL_withDayOfYear 7 = .ok (.i2l, 1) := by decide +kernel
theorem dL_withDayOfYear_8 : decode cL_withDayOfYear 8 = .ok (.putfield 13, 3) := by decide +kernel
theorem dL_withDayOfYear_11 : decode cL_withDayOfYear 11 = .ok (.goto 11, 3) := by decide +kernel
theorem dL_withDayOfYear_14 : decode cL_withDayOfYear 14 = .ok (.astore 4, 2) := by decide +kernel
theorem dL_withDayOfYear_16 : decode cL_withDayOfYear 16 = .ok (.iconst 1, 1) := by decide +kernel
theorem dL_withDayOfYear_17 : decode cL_withDayOfYear 17 = .ok (.ireturn, 1) := by decide +kernel
theorem dL_withDayOfYear_18 : decode cL_withDayOfYear 18 = .ok (.astore 4, 2) := by decide +kernel
theorem dL_withDayOfYear_20 : decode cL_withDayOfYear 20 = .ok (.iconst 2, 1) := by decide +kernel
theorem dL_withDayOfYear_21 : decode cL_withDayOfYear 21 = .ok (.ireturn, 1) := by decide +kernel
theorem dL_withDayOfYear_22 : decode cL_withDayOfYear 22 = .ok (.iconst 0, 1) := by decide +kernel
theorem dL_withDayOfYear_23 : decode cL_withDayOfYear 23 = .ok (.ireturn, 1) := by decide +kernel
theorem dL_withHour_0 : decode cL_withHour 0 = .ok (.aload_n 3, 1) := by decide +kernel
theorem dL_withHour_1 : decode cL_withHour 1 = .ok (.aload_n 0, 1) := by decide +kernel
theorem dL_withHour_2 : decode cL_withHour 2 = .ok (.iload_n 1, 1) := by decide +kernel
theorem dL_withHour_3 : decode cL_withHour 3 = .ok (.iload_n 2, 1) := by decide +kernel
theorem dL_withHour_4 : decode cL_withHour 4 = .ok (.invokevirtual 52, 3) := by decide +kernel
theorem dL_withHour_7 : decode cL_withHour 7 = .ok (.i2l, 1) := by decide +kernel
theorem dL_withHour_8 : decode cL_withHour 8 = .ok (.putfield 13, 3) := by decide +kernel
theorem dL_withHour_11 : decode cL_withHour 11 = .ok (.goto 11, 3) := by decide +kernel
theorem dL_withHour_14 : decode cL_withHour 14 = .ok (.astore 4, 2) := by decide +kernel
theorem dL_withHour_16 : decode cL_withHour 16 = .ok (.iconst 1, 1) := by decide +kernel
theorem dL_withHour_17 : decode cL_withHour 17 = .ok (.ireturn, 1) := by decide +kernel
theorem dL_withHour_18 : decode cL_withHour 18 = .ok (.astore 4, 2) := by decide +kernel
theorem dL_withHour_20 : decode cL_withHour 20 = .ok (.iconst 2, 1) := by decide +kernel
theorem dL_withHour_21 : decode cL_withHour 21 = .ok (.ireturn, 1) := by decide +kernel
theorem dL_withHour_22 : decode cL_withHour 22 = .ok (.iconst 0, 1) := by decide +kernel
theorem dL_withHour_23 : decode cL_withHour 23 = .ok (.ireturn, 1) := by decide +kernel
theorem dL_withMinute_0 : decode cL_withMinute 0 = .ok (.aload_n 3, 1) := by decide +kernel
theorem dL_withMinute_1 : decode cL_withMinute 1 = .ok (.aload_n 0, 1) := by decide +kernel
theorem dL_withMinute_2 : decode cL_withMinute 2 = .ok (.iload_n 1, 1) := by decide +kernel
theorem dL_withMinute_3 : decode cL_withMinute 3 = .ok (.iload_n 2, 1) := by decide +kernel
theorem dL_withMinute_4 : decode cL_withMinute 4 = .ok (.invokevirtual 55, 3) := by decide +kernel
theorem dL_withMinute_7 : decode cL_withMinute 7 = .ok (.i2l, 1) := by decide +kernel
theorem dL_withMinute_8 : decode cL_withMinute 8 = .ok (.putfield 13, 3) := by decide +kernel
theorem dL_withMinute_11 : decode cL_withMinute 11 = .ok (.goto 11, 3) := by decide +kernel
theorem dL_withMinute_14 : decode cL_withMinute 14 = .ok (.astore 4, 2) := by decide +kernel
theorem dL_withMinute_16 : decode cL_withMinute 16 = .ok (.iconst 1, 1) := by decide +kernel
theorem dL_withMinute_17 : decode cL_withMinute 17 = .ok (.ireturn, 1) := by decide +kernel
theorem dL_withMinute_18 : decode cL_withMinute 18 = .ok (.astore 4, 2) := by decide +kernel
theorem dL_withMinute_20 : decode cL_withMinute 20 = .ok (.iconst 2, 1) := by decide +kernel
theorem dL_withMinute_21 : decode cL_withMinute 21 = .ok (.ireturn, 1) := by decide +kernel
theorem dL_withMinute_22 : decode cL_withMinute 22 = .ok (.iconst 0, 1) := by decide +kernel
theorem dL_withMinute_23 : decode cL_withMinute 23 = .ok (.ireturn, 1) := by decide +kernel
theorem dL_withSecond_0 : decode cL_withSecond 0 = .ok (.aload_n 3, 1) := by decide +kernel
theorem dL_withSecond_1 : decode cL_withSecond 1 = .ok (.aload_n 0, 1) := by decide +kernel
theorem dL_withSecond_2 : decode cL_withSecond 2 = .ok (.iload_n 1, 1) := by decide +kernel
theorem dL_withSecond_3 : decode cL_withSecond 3 = .ok (.iload_n 2, 1) := by decide +kernel
theorem dL_withSecond_4 : decode cL_withSecond 4 = .ok (.invokevirtual 58, 3) := by decide +kernel
theorem dL_withSecond_7 : decode cL_withSecond 7 = .ok (.i2l, 1) := by decide +kernel
theorem dL_withSecond_8 : decode cL_withSecond 8 = .ok (.putfield 13, 3) := by decide +kernel
theorem dL_withSecond_11 : decode cL_withSecond 11 = .ok (.goto 11, 3) := by decide +kernel
theorem dL_withSecond_14 : decode cL_withSecond 14 = .ok (.astore 4, 2) := by decide +kernel
theorem dL_withSecond_16 : decode cL_withSecond 16 = .ok (.iconst 1, 1) := by decide +kernel
theorem dL_withSecond_17 : decode cL_withSecond 17 = .ok (.ireturn, 1) := by decide +kernel
theorem dL_withSecond_18 : decode cL_withSecond 18 = .ok (.astore 4, 2) := by decide +kernel
theorem dL_withSecond_20 : decode cL_withSecond 20 = .ok (.iconst 2, 1) := by decide +kernel
theorem dL_withSecond_21 : decode cL_withSecond 21 = .ok (.ireturn, 1) := by decide +kernel
theorem dL_withSecond_22 : decode cL_withSecond 22 = .ok (.iconst 0, 1) := by decide +kernel
theorem dL_withSecond_23 : decode cL_withSecond 23 = .ok (.ireturn, 1) := by decide +kernel
theorem dL_withNano_0 : decode cL_withNano 0 = .ok (.aload_n 3, 1) := by decide +kernel
theorem dL_withNano_1 : decode cL_withNano 1 = .ok (.aload_n 0, 1) := by decide +kernel
theorem dL_withNano_2 : decode cL_withNano 2 = .ok (.iload_n 1, 1) := by decide +kernel
theorem dL_withNano_3 : decode cL_withNano 3 = .ok (.iload_n 2, 1) := by decide +kernel
theorem dL_withNano_4 : decode cL_withNano 4 = .ok (.invokevirtual 61, 3) := by decide +kernel
theorem dL_withNano_7 : decode cL_withNano 7 = .ok (.i2l, 1) := by decide +kernel
theorem dL_withNano_8 : decode cL_withNano 8 = .ok (.putfield 13, 3) := by decide +kernel
theorem dL_withNano_11 : decode cL_withNano 11 = .ok (.goto 11, 3) := by decide +kernel
theorem dL_withNano_14 : decode cL_withNano 14 = .ok (.astore 4, 2) := by decide +kernel
theorem dL_withNano_16 : decode cL_withNano 16 = .ok (.iconst 1, 1) := by decide +kernel
theorem dL_withNano_17 : decode cL_withNano 17 = .ok (.ireturn, 1) := by decide +kernel
theorem dL_withNano_18 : decode cL_withNano 18 = .ok (.astore 4, 2) := by decide +kernel
theorem dL_withNano_20 : decode cL_withNano 20 = .ok (.iconst 2, 1) := by decide +kernel
theorem dL_withNano_21 : decode cL_withNano 21 = .ok (.ireturn, 1) := by decide +kernel
theorem dL_withNano_22 : decode cL_withNano 22 = .ok (.iconst 0, 1) := by decide +kernel
theorem dL_withNano_23 : decode cL_withNano 23 = .ok (.ireturn, 1) := by decide +kernel
theorem dL_truncate_0 : decode cL_truncate 0 = .ok (.aload_n 3, 1) := by decide +kernel
theorem dL_truncate_1 : decode cL_truncate 1 = .ok (.aload_n 0, 1) := by decide +kernel
theorem dL_truncate_2 : decode cL_truncate 2 = .ok (.iload_n 1, 1) := by decide +kernel
theorem dL_truncate_3 : decode cL_truncate 3 = .ok (.iload_n 2, 1) := by decide +kernel
theorem dL_truncate_4 : decode cL_truncate 4 = .ok (.invokevirtual 64, 3) := by decide +kernel
theorem dL_truncate_7 : decode cL_truncate 7 = .ok (.i2l, 1) := by decide +kernel
theorem dL_truncate_8 : decode cL_truncate 8 = .ok (.putfield 13, 3) := by decide +kernel
theorem dL_truncate_11 : decode cL_truncate 11 = .ok (.goto 11, 3) := by decide +kernel
theorem dL_truncate_14 : decode cL_truncate 14 = .ok (.astore 4, 2) := by decide +kernel
theorem dL_truncate_16 : decode cL_truncate 16 = .ok (.iconst 1, 1) := by decide +kernel
theorem dL_truncate_17 : decode cL_truncate 17 = .ok (.ireturn, 1) := by decide +kernel
theorem dL_truncate_18 : decode cL_truncate 18 = .ok (.astore 4, 2) := by decide +kernel
theorem dL_truncate_20 : decode cL_truncate 20 = .ok (.iconst 2, 1) := by decide +kernel
theorem dL_truncate_21 : decode cL_truncate 21 = .ok (.ireturn, 1) := by decide +kernel
theorem dL_truncate_22 : decode cL_truncate 22 = .ok (.iconst 0, 1) := by decide +kernel
theorem dL_truncate_23 : decode cL_truncate 23 = .ok (.ireturn, 1) := by decide +kernel
theorem dL_plusYears_0 : decode cL_plusYears 0 = .ok (.aload_n 3, 1) := by decide +kernel
theorem dL_plusYears_1 : decode cL_plusYears 1 = .ok (.aload_n 0, 1) := by decide +kernel
theorem dL_plusYears_2 : decode cL_plusYears 2 = .ok (.iload_n 1, 1) := by decide +kernel
theorem dL_plusYears_3 : decode cL_plusYears 3 = .ok (.iload_n 2, 1) := by decide +kernel
theorem dL_plusYears_4 : decode cL_plusYears 4 = .ok (.invokevirtual 67, 3) := by decide +kernel
theorem dL_plusYears_7 : decode cL_plusYears 7 = .ok (.i2l, 1) := by decide +kernel
theorem dL_plusYears_8 : decode cL_plusYears 8 = .ok (.putfield 13, 3) := by decide +kernel
theorem dL_plusYears_11 : decode cL_plusYears 11 = .ok (.goto 11, 3) := by decide +kernel
theorem dL_plusYears_14 : decode cL_plusYears 14 = .ok (.astore 4, 2) := by decide +kernel
theorem dL_plusYears_16 : decode cL_plusYears 16 = .ok (.iconst 1, 1) := by decide +kernel
theorem dL_plusYears_17 : decode cL_plusYears 17 = .ok (.ireturn, 1) := by decide +kernel
theorem dL_plusYears_18 : decode cL_plusYears 18 = .ok (.astore 4, 2) := by decide +kernel
theorem dL_plusYears_20 : decode cL_plusYears 20 = .ok (.iconst 2, 1) := by decide +kernel
theorem dL_plusYears_21 : decode cL_plusYears 21 = .ok (.ireturn, 1) := by decide +kernel
theorem dL_plusYears_22 : decode cL_plusYears 22 = .ok (.iconst 0, 1) := by decide +kernel
theorem dL_plusYears_23 : decode cL_plusYears 23 = .ok (.ireturn, 1) := by decide +kernel
theorem dL_plusMonths_0 : decode cL_plusMonths 0 = .ok (.aload_n 3, 1) := by decide +kernel
theorem dL_plusMonths_1 : decode cL_plusMonths 1 = .ok (.aload_n 0, 1) := by decide +kernel
theorem dL_plusMonths_2 : decode cL_plusMonths 2 = .ok (.iload_n 1, 1) := by decide +kernel
theorem dL_plusMonths_3 : decode cL_plusMonths 3 = .ok (.iload_n 2, 1) := by decide +kernel
theorem dL_plusMonths_4 : decode cL_plusMonths 4 = .ok (.invokevirtual 70, 3) := by decide +kernel
theorem dL_plusMonths_7 : decode cL_plusMonths 7 = .ok (.i2l, 1) := by decide +kernel
theorem dL_plusMonths_8 : decode cL_plusMonths 8 = .ok (.putfield 13, 3) := by decide +kernel
theorem dL_plusMonths_11 : decode cL_plusMonths 11 = .ok (.goto 7, 3) := by decide +kernel
theorem dL_plusMonths_14 : decode cL_plusMonths 14 = .ok (.astore 4, 2) := by decide +kernel
theorem dL_plusMonths_16 : decode cL_plusMonths 16 = .ok (.iconst 1, 1) := by decide +kernel
theorem dL_plusMonths_17 : decode cL_plusMonths 17 = .ok (.ireturn, 1) := by decide +kernel
theorem dL_plusMonths_18 : decode cL_plusMonths 18 = .ok (.iconst 0, 1) := by decide +kernel
theorem dL_plusMonths_19 : decode cL_plusMonths 19 = .ok (.ireturn, 1) := by decide +kernel
theorem dL_plusWeeks_0 : decode cL_plusWeeks 0 = .ok (.aload_n 3, 1) := by decide +kernel
theorem dL_plusWeeks_1 : decode cL_plusWeeks 1 = .ok (.aload_n 0, 1) := by decide +kernel
theorem dL_plusWeeks_2 : decode cL_plusWeeks 2 = .ok (.iload_n 1, 1) := by decide +kernel
theorem dL_plusWeeks_3 : decode cL_plusWeeks 3 = .ok (.iload_n 2, 1) := by decide +kernel
theorem dL_plusWeeks_4 : decode cL_plusWeeks 4 = .ok (.invokevirtual 73, 3) := by decide +kernel
theorem dL_plusWeeks_7 : decode cL_plusWeeks 7 = .ok (.i2l, 1) := by decide +kernel
theorem dL_plusWeeks_8 : decode cL_plusWeeks 8 = .ok (.putfield 13, 3) := by decide +kernel
theorem dL_plusWeeks_11 : decode cL_plusWeeks 11 = .ok (.goto 7, 3) := by decide +kernel
theorem dL_plusWeeks_14 : decode cL_plusWeeks 14 = .ok (.astore 4, 2) := by decide +kernel
theorem dL_plusWeeks_16 : decode cL_plusWeeks 16 = .ok (.iconst 1, 1) := by decide +kernel
theorem dL_plusWeeks_17 : decode cL_plusWeeks 17 = .ok (.ireturn, 1) := by decide +kernel
theorem dL_plusWeeks_18 : decode cL_plusWeeks 18 = .ok (.iconst 0, 1) := by decide +kernel
theorem dL_plusWeeks_19 : decode cL_plusWeeks 19 = .ok (.ireturn, 1) := by decide +kernel
theorem dL_plusDays_0 : decode cL_plusDays 0 = .ok (.aload_n 3, 1) := by decide +kernel
theorem dL_plusDays_1 : decode cL_plusDays 1 = .ok (.aload_n 0, 1) := by decide +kernel
theorem dL_plusDays_2 : decode cL_plusDays 2 = .ok (.iload_n 1, 1) := by decide +kernel
theorem dL_plusDays_3 : decode cL_plusDays 3 = .ok (.iload_n 2, 1) := by decide +kernel
theorem dL_plusDays_4 : decode cL_plusDays 4 = .ok (.invokevirtual 76, 3) := by decide +kernel
theorem dL_plusDays_7 : decode cL_plusDays 7 = .ok (.i2l, 1) := by decide +kernel
theorem dL_plusDays_8 : decode cL_plusDays 8 = .ok (.putfield 13, 3) := by decide +kernel
theorem dL_plusDays_11 : decode cL_plusDays 11 = .ok (.goto 7, 3) := by decide +kernel
theorem dL_plusDays_14 : decode cL_plusDays 14 = .ok (.astore 4, 2) := by decide +kernel
theorem dL_plusDays_16 : decode cL_plusDays 16 = .ok (.iconst 1, 1) := by decide +kernel
theorem dL_plusDays_17 : decode cL_plusDays 17 = .ok (.ireturn, 1) := by decide +kernel
theorem dL_plusDays_18 : decode cL_plusDays 18 = .ok (.iconst 0, 1) := by decide +kernel
theorem dL_plusDays_19 : decode cL_plusDays 19 = .ok (.ireturn, 1) := by decide +kernel
theorem dL_plusHours_0 : decode cL_plusHours 0 = .ok (.aload_n 3, 1) := by decide +kernel
theorem dL_plusHours_1 : decode cL_plusHours 1 = .ok (.aload_n 0, 1) := by decide +kernel
theorem dL_plusHours_2 : decode cL_plusHours 2 = .ok (.iload_n 1, 1) := by decide +kernel
theorem dL_plusHours_3 : decode cL_plusHours 3 = .ok (.iload_n 2, 1) := by decide +kernel
theorem dL_plusHours_4 : decode cL_plusHours 4 = .ok (.invokevirtual 79, 3) := by decide +kernel
theorem dL_plusHours_7 : decode cL_plusHours 7 = .ok (.i2l, 1) := by decide +kernel
theorem dL_plusHours_8 : decode cL_plusHours 8 = .ok (.putfield 13, 3) := by decide +kernel
theorem dL_plusHours_11 : decode cL_plusHours 11 = .ok (.goto 7, 3) := by decide +kernel
theorem dL_plusHours_14 : decode cL_plusHours 14 = .ok (.astore 4, 2) := by decide +kernel
theorem dL_plusHours_16 : decode cL_plusHours 16 = .ok (.iconst 1, 1) := by decide +kernel
theorem dL_plusHours_17 : decode cL_plusHours 17 = .ok (.ireturn, 1) := by decide +kernel
theorem dL_plusHours_18 : decode cL_plusHours 18 = .ok (.iconst 0, 1) := by decide +kernel
theorem dL_plusHours_19 : decode cL_plusHours 19 = .ok (.ireturn, 1) := by decide +kernel
theorem dL_plusMinutes_0 : decode cL_plusMinutes 0 = .ok (.aload_n 3, 1) := by decide +kernel
theorem dL_plusMinutes_1 : decode cL_plusMinutes 1 = .ok (.aload_n 0, 1) := by decide +kernel
theorem dL_plusMinutes_2 : decode cL_plusMinutes 2 = .ok (.iload_n 1, 1) := by decide +kernel
theorem dL_plusMinutes_3 : decode cL_plusMinutes 3 = .ok (.iload_n 2, 1) := by decide +kernel
theorem dL_plusMinutes_4 : decode cL_plusMinutes 4 = .ok (.invokevirtual 82, 3) := by decide +kernel
theorem dL_plusMinutes_7 : decode cL_plusMinutes 7 = .ok (.i2l, 1) := by decide +kernel
theorem dL_plusMinutes_8 : decode cL_plusMinutes 8 = .ok (.putfield 13, 3) := by decide +kernel
theorem dL_plusMinutes_11 : decode cL_plusMinutes 11 = .ok (.goto 7, 3) := by decide +kernel
theorem dL_plusMinutes_14 : decode cL_plusMinutes 14 = .ok (.astore 4, 2) := by decide +kernel
theorem dL_plusMinutes_16 : decode cL_plusMinutes 16 = .ok (.iconst 1, 1) := by decide +kernel
theorem dL_plusMinutes_17 : decode cL_plusMinutes 17 = .ok (.ireturn, 1) := by decide +kernel
theorem dL_plusMinutes_18 : decode cL_plusMinutes 18 = .ok (.iconst 0, 1) := by decide +kernel
theorem dL_plusMinutes_19 : decode cL_plusMinutes 19 = .ok (.ireturn, 1) := by decide +kernel
theorem dL_plusSeconds_0 : decode cL_plusSeconds 0 = .ok (.aload_n 3, 1) := by decide +kernel
theorem dL_plusSeconds_1 : decode cL_plusSeconds 1 = .ok (.aload_n 0, 1) := by decide +kernel
theorem dL_plusSeconds_2 : decode cL_plusSeconds 2 = .ok (.iload_n 1, 1) := by decide +kernel
theorem dL_plusSeconds_3 : decode cL_plusSeconds 3 = .ok (.iload_n 2, 1) := by decide +kernel
theorem dL_plusSeconds_4 : decode cL_plusSeconds 4 = .ok (.invokevirtual 85, 3) := by decide +kernel
theorem dL_plusSeconds_7 : decode cL_plusSeconds 7 = .ok (.i2l, 1) := by decide +kernel
theorem dL_plusSeconds_8 : decode cL_plusSeconds 8 = .ok (.putfield 13, 3) := by decide +kernel
theorem dL_plusSeconds_11 : decode cL_plusSeconds 11 = .ok (.goto 7, 3) := by decide +kernel
theorem dL_plusSeconds_14 : decode cL_plusSeconds 14 = .ok (.astore 4, 2) := by decide +kernel
theorem dL_plusSeconds_16 : decode cL_plusSeconds 16 = .ok (.iconst 1, 1) := by decide +kernel
theorem dL_plusSeconds_17 : decode cL_plusSeconds 17 = .ok (.ireturn, 1) := by decide +kernel
theorem dL_plusSeconds_18 : decode cL_plusSeconds 18 = .ok (.iconst 0, 1) := by decide +kernel
theorem dL_plusSeconds_19 : decode cL_plusSeconds 19 = .ok (.ireturn, 1) := by decide +kernel
theorem dL_minusYears_0 : decode cL_minusYears 0 = .ok (.aload_n 3, 1) := by decide +kernel
theorem dL_minusYears_1 : decode cL_minusYears 1 = .ok (.aload_n 0, 1) := by decide +kernel
theorem dL_minusYears_2 : decode cL_minusYears 2 = .ok (.iload_n 1, 1) := by decide +kernel
theorem dL_minusYears_3 : decode cL_minusYears 3 = .ok (.iload_n 2, 1) := by decide +kernel
theorem dL_minusYears_4 : decode cL_minusYears 4 = .ok (.invokevirtual 88, 3) := by decide +kernel
theorem dL_minusYears_7 : decode cL_minusYears 7 = .ok (.i2l, 1) := by decide +kernel
theorem dL_minusYears_8 : decode cL_minusYears 8 = .ok (.putfield 13, 3) := by decide +kernel
theorem dL_minusYears_11 : decode cL_minusYears 11 = .ok (.goto 11, 3) := by decide +kernel
theorem dL_minusYears_14 : decode cL_minusYears 14 = .ok (.astore 4, 2) := by decide +kernel
theorem dL_minusYears_16 : decode cL_minusYears 16 = .ok (.iconst 1, 1) := by decide +kernel
theorem dL_minusYears_17 : decode cL_minusYears 17 = .ok (.ireturn, 1) := by decide +kernel
theorem dL_minusYears_18 : decode cL_minusYears 18 = .ok (.astore 4, 2) := by decide +kernel
theorem dL_minusYears_20 : decode cL_minusYears 20 = .ok (.iconst 2, 1) := by decide +kernel
theorem dL_minusYears_21 : decode cL_minusYears 21 = .ok (.ireturn, 1) := by decide +kernel
theorem dL_minusYears_22 : decode cL_minusYears 22 = .ok (.iconst 0, 1) := by decide +kernel
theorem dL_minusYears_23 : decode cL_minusYears 23 = .ok (.ireturn, 1) := by decide +kernel
theorem dL_minusMonths_0 : decode cL_minusMonths 0 = .ok (.aload_n 3, 1) := by decide +kernel
theorem dL_minusMonths_1 : decode cL_minusMonths 1 = .ok (.aload_n 0, 1) := by decide +kernel
theorem dL_minusMonths_2 : decode cL_minusMonths 2 = .ok (.iload_n 1, 1) := by decide +kernel
theorem dL_minusMonths_3 : decode cL_minusMonths 3 = .ok (.iload_n 2, 1) := by decide +kernel
theorem dL_minusMonths_4 : decode cL_minusMonths 4 = .ok (.invokevirtual 91, 3) := by decide +kernel
theorem dL_minusMonths_7 : decode cL_minusMonths 7 = .ok (.i2l, 1) := by decide +kernel
theorem dL_minusMonths_8 : decode cL_minusMonths 8 = .ok (.putfield 13, 3) := by decide +kernel
theorem dL_minusMonths_11 : decode cL_minusMonths 11 = .ok (.goto 7, 3) := by decide +kernel
theorem dL_minusMonths_14 : decode cL_minusMonths 14 = .ok (.astore 4, 2) := by decide +kernel
theorem dL_minusMonths_16 : decode cL_minusMonths 16 = .ok (.iconst 1, 1) := by decide +kernel
theorem dL_minusMonths_17 : decode cL_minusMonths 17 = .ok (.ireturn, 1) := by decide +kernel
theorem dL_minusMonths_18 : decode cL_minusMonths 18 = .ok (.iconst 0, 1) := by decide +kernel
theorem dL_minusMonths_19 : decode cL_minusMonths 19 = .ok (.ireturn, 1) := by decide +kernel
theorem dL_minusWeeks_0 : decode cL_minusWeeks 0 = .ok (.aload_n 3, 1) := by decide +kernel
theorem dL_minusWeeks_1 : decode cL_minusWeeks 1 = .ok (.aload_n 0, 1) := by decide +kernel
theorem dL_minusWeeks_2 : decode cL_minusWeeks 2 = .ok (.iload_n 1, 1) := by decide +kernel
theorem dL_minusWeeks_3 : decode cL_minusWeeks 3 = .ok (.iload_n 2, 1) := by decide +kernel
theorem dL_minusWeeks_4 : decode cL_minusWeeks 4 = .ok (.invokevirtual 94, 3) := by decide +kernel
theorem dL_minusWeeks_7 : decode cL_minusWeeks 7 = .ok (.i2l, 1) := by decide +kernel
theorem dL_minusWeeks_8 : decode cL_minusWeeks 8 = .ok (.putfield 13, 3) := by decide +kernel
theorem dL_minusWeeks_11 : decode cL_minusWeeks 11 = .ok (.goto 7, 3) := by decide +kernel
theorem dL_minusWeeks_14 : decode cL_minusWeeks 14 = .ok (.astore 4, 2) := by decide +kernel
theorem dL_minusWeeks_16 : decode cL_minusWeeks 16 = .ok (.iconst 1, 1) := by decide +kernel
theorem dL_minusWeeks_17 : decode cL_minusWeeks 17 = .ok (.ireturn, 1) := by decide +kernel
theorem dL_minusWeeks_18 : decode cL_minusWeeks 18 = .ok (.iconst 0, 1) := by decide +kernel
theorem dL_minusWeeks_19 : decode cL_minusWeeks 19 = .ok (.ireturn, 1) := by decide +kernel
theorem dL_minusDays_0 : decode cL_minusDays 0 = .ok (.aload_n 3, 1) := by decide +kernel
theorem dL_minusDays_1 : decode cL_minusDays 1 = .ok (.aload_n 0, 1) := by decide +kernel
theorem dL_minusDays_2 : decode cL_minusDays 2 = .ok (.iload_n 1, 1) := by decide +kernel
theorem dL_minusDays_3 : decode cL_minusDays 3 = .ok (.iload_n 2, 1) := by decide +kernel
theorem dL_minusDays_4 : decode cL_minusDays 4 = .ok (.invokevirtual 97, 3) := by decide +kernel
theorem dL_minusDays_7 : decode cL_minusDays 7 = .ok (.i2l, 1) := by decide +kernel
theorem dL_minusDays_8 : decode cL_minusDays 8 = .ok (.putfield 13, 3) := by decide +kernel
theorem dL_minusDays_11 : decode cL_minusDays 11 = .ok (.goto 7, 3) := by decide +kernel
theorem dL_minusDays_14 : decode cL_minusDays 14 = .ok (.astore 4, 2) := by decide +kernel
theorem dL_minusDays_16 : decode cL_minusDays 16 = .ok (.iconst 1, 1) := by decide +kernel
theorem dL_minusDays_17 : decode cL_minusDays 17 = .ok (.ireturn, 1) := by decide +kernel
theorem dL_minusDays_18 : decode cL_minusDays 18 = .ok (.iconst 0, 1) := by decide +kernel
theorem dL_minusDays_19 : decode cL_minusDays 19 = .ok (.ireturn, 1) := by decide +kernel
theorem dL_minusHours_0 : decode cL_minusHours 0 = .ok (.aload_n 3, 1) := by decide +kernel
theorem dL_minusHours_1 : decode cL_minusHours 1 = .ok (.aload_n 0, 1) := by decide +kernel
theorem dL_minusHours_2 : decode cL_minusHours 2 = .ok (.iload_n 1, 1) := by decide +kernel
theorem dL_minusHours_3 : decode cL_minusHours 3 = .ok (.iload_n 2, 1) := by decide +kernel
theorem dL_minusHours_4 : decode cL_minusHours 4 = .ok (.invokevirtual 100, 3) := by decide +kernel
theorem dL_minusHours_7 : decode cL_minusHours 7 = .ok (.i2l, 1) := by decide +kernel
theorem dL_minusHours_8 : decode cL_minusHours 8 = .ok (.putfield 13, 3) := by decide +kernel
theorem dL_minusHours_11 : decode cL_minusHours 11 = .ok (.goto 7, 3) := by decide +kernel
theorem dL_minusHours_14 : decode cL_minusHours 14 = .ok (.astore 4, 2) := by decide +kernel
theorem dL_minusHours_16 : decode cL_minusHours 16 = .ok (.iconst 1, 1) := by decide +kernel
theorem dL_minusHours_17 : decode cL_minusHours 17 = .ok (.ireturn, 1) := by decide +kernel
theorem dL_minusHours_18 : decode cL_minusHours 18 = .ok (.iconst 0, 1) := by decide +kernel
theorem dL_minusHours_19 : decode cL_minusHours 19 = .ok (.ireturn, 1) := by decide +kernel
theorem dL_minusMinutes_0 : decode cL_minusMinutes 0 = .ok (.aload_n 3, 1) := by decide +kernel
theorem dL_minusMinutes_1 : decode cL_minusMinutes 1 = .ok (.aload_n 0, 1) := by decide +kernel
theorem dL_minusMinutes_2 : decode cL_minusMinutes 2 = .ok (.iload_n 1, 1) := by decide +kernel
theorem dL_minusMinutes_3 : decode cL_minusMinutes 3 = .ok (.iload_n 2, 1) := by decide +kernel
theorem dL_minusMinutes_4 : decode cL_minusMinutes 4 = .ok (.invokevirtual 103, 3) := by decide +kernel
theorem dL_minusMinutes_7 : decode cL_minusMinutes 7 = .ok (.i2l, 1) := by decide +kernel
theorem dL_minusMinutes_8 : decode cL_minusMinutes 8 = .ok (.putfield 13, 3) := by decide +kernel
theorem dL_minusMinutes_11 : decode cL_minusMinutes 11 = .ok (.goto 7, 3) := by decide +kernel
theorem dL_minusMinutes_14 : decode cL_minusMinutes 14 = .ok (.astore 4, 2) := by decide +kernel
theorem dL_minusMinutes_16 : decode cL_minusMinutes 16 = .ok (.iconst 1, 1) := by decide +kernel
theorem dL_minusMinutes_17 : decode cL_minusMinutes 17 = .ok (.ireturn, 1) := by decide +kernel
theorem dL_minusMinutes_18 : decode cL_minusMinutes 18 = .ok (.iconst 0, 1) := by decide +kernel
theorem dL_minusMinutes_19 : decode cL_minusMinutes 19 = .ok (.ireturn, 1) := by decide +kernel
theorem dL_minusSeconds_0 : decode cL_minusSeconds 0 = .ok (.aload_n 3, 1) := by decide +kernel
theorem dL_minusSeconds_1 : decode cL_minusSeconds 1 = .ok (.aload_n 0, 1) := by decide +kernel
theorem dL_minusSeconds_2 : decode cL_minusSeconds 2 = .ok (.iload_n 1, 1) := by decide +kernel
theorem dL_minusSeconds_3 : decode cL_minusSeconds 3 = .ok (.iload_n 2, 1) := by decide +kernel
theorem dL_minusSeconds_4 : decode cL_minusSeconds 4 = .ok (.invokevirtual 106, 3) := by decide +kernel
theorem dL_minusSeconds_7 : decode cL_minusSeconds 7 = .ok (.i2l, 1) := by decide +kernel
theorem dL_minusSeconds_8 : decode cL_minusSeconds 8 = .ok (.putfield 13, 3) := by decide +kernel
theorem dL_minusSeconds_11 : decode cL_minusSeconds 11 = .ok (.goto 7, 3) := by decide +kernel
theorem dL_minusSeconds_14 : decode cL_minusSeconds 14 = .ok (.astore 4, 2) := by decide +kernel
theorem dL_minusSeconds_16 : decode cL_minusSeconds 16 = .ok (.iconst 1, 1) := by decide +kernel
theorem dL_minusSeconds_17 : decode cL_minusSeconds 17 = .ok (.ireturn, 1) := by decide +kernel
theorem dL_minusSeconds_18 : decode cL_minusSeconds 18 = .ok (.iconst 0, 1) := by decide +kernel
theorem dL_minusSeconds_19 : decode cL_minusSeconds 19 = .ok (.ireturn, 1) := by decide +kernel
theorem dL_plusNanos_0 : decode cL_plusNanos 0 = .ok (.aload 4, 2) := by decide +kernel
theorem dL_plusNanos_2 : decode cL_plusNanos 2 = .ok (.aload_n 0, 1) := by decide +kernel
theorem dL_plusNanos_3 : decode cL_plusNanos 3 = .ok (.iload_n 1, 1) := by decide +kernel
theorem dL_plusNanos_4 : decode cL_plusNanos 4 = .ok (.iload_n 2, 1) := by decide +kernel
theorem dL_plusNanos_5 : decode cL_plusNanos 5 = .ok (.iload_n 3, 1) := by decide +kernel
theorem dL_plusNanos_6 : decode cL_plusNanos 6 = .ok (.invokevirtual 109, 3) := by decide +kernel
theorem dL_plusNanos_9 : decode cL_plusNanos 9 = .ok (.i2l, 1) := by decide +kernel
theorem dL_plusNanos_10 : decode cL_plusNanos 10 = .ok (.putfield 13, 3) := by decide +kernel
theorem dL_plusNanos_13 : decode cL_plusNanos 13 = .ok (.goto 7, 3) := by decide +kernel
theorem dL_plusNanos_16 : decode cL_plusNanos 16 = .ok (.astore 5, 2) := by decide +kernel
theorem dL_plusNanos_18 : decode cL_plusNanos 18 = .ok (.iconst 1, 1) := by decide +kernel
theorem dL_plusNanos_19 : decode cL_plusNanos 19 = .ok (.ireturn, 1) := by decide +kernel
theorem dL_plusNanos_20 : decode cL_plusNanos 20 = .ok (.iconst 0, 1) := by decide +kernel
theorem dL_plusNanos_21 : decode cL_plusNanos 21 = .ok (.ireturn, 1) := by decide +kernel
theorem dL_minusNanos_0 : decode cL_minusNanos 0 = .ok (.aload 4, 2) := by decide +kernel
theorem dL_minusNanos_2 : decode cL_minusNanos 2 = .ok (.aload_n 0, 1) := by decide +kernel
theorem dL_minusNanos_3 : decode cL_minusNanos 3 = .ok (.iload_n 1, 1) := by decide +kernel
theorem dL_minusNanos_4 : decode cL_minusNanos 4 = .ok (.iload_n 2, 1) := by decide +kernel
theorem dL_minusNanos_5 : decode cL_minusNanos 5 = .ok (.iload_n 3, 1) := by decide +kernel
theorem dL_minusNanos_6 : decode cL_minusNanos 6 = .ok (.invokevirtual 113, 3) := by decide +kernel
theorem dL_minusNanos_9 : decode cL_minusNanos 9 = .ok (.i2l, 1) := by decide +kernel
theorem dL_minusNanos_10 : decode cL_minusNanos 10 = .ok (.putfield 13, 3) := by decide +kernel
theorem dL_minusNanos_13 : decode cL_minusNanos 13 = .ok (.goto 7, 3) := by decide +kernel
theorem dL_minusNanos_16 : decode cL_minusNanos 16 = .ok (.astore 5, 2) := by decide +kernel
theorem dL_minusNanos_18 : decode cL_minusNanos 18 = .ok (.iconst 1, 1) := by decide +kernel
theorem dL_minusNanos_19 : decode cL_minusNanos 19 = .ok (.ireturn, 1) := by decide +kernel
theorem dL_minusNanos_20 : decode cL_minusNanos 20 = .ok (.iconst 0, 1) := by decide +kernel
theorem dL_minusNanos_21 : decode cL_minusNanos 21 = .ok (.ireturn, 1) := by decide +kernel
theorem dL_plusUnits_0 : decode cL_plusUnits 0 = .ok (.aload 4, 2) := by decide +kernel
theorem dL_plusUnits_2 : decode cL_plusUnits 2 = .ok (.aload_n 0, 1) := by decide +kernel
theorem dL_plusUnits_3 : decode cL_plusUnits 3 = .ok (.iload_n 1, 1) := by decide +kernel
theorem dL_plusUnits_4 : decode cL_plusUnits 4 = .ok (.iload_n 2, 1) := by decide +kernel
theorem dL_plusUnits_5 : decode cL_plusUnits 5 = .ok (.iload_n 3, 1) := by decide +kernel
theorem dL_plusUnits_6 : decode cL_plusUnits 6 = .ok (.invokevirtual 116, 3) := by decide +kernel
theorem dL_plusUnits_9 : decode cL_plusUnits 9 = .ok (.i2l, 1) := by decide +kernel
theorem dL_plusUnits_10 : decode cL_plusUnits 10 = .ok (.putfield 13, 3) := by decide +kernel
theorem dL_plusUnits_13 : decode cL_plusUnits 13 = .ok (.goto 11, 3) := by decide +kernel
theorem dL_plusUnits_16 : decode cL_plusUnits 16 = .ok (.astore 5, 2) := by decide +kernel
theorem dL_plusUnits_18 : decode cL_plusUnits 18 = .ok (.iconst 1, 1) := by decide +kernel
theorem dL_plusUnits_19 : decode cL_plusUnits 19 = .ok (.ireturn, 1) := by decide +kernel
theorem dL_plusUnits_20 : decode cL_plusUnits 20 = .ok (.astore 5, 2) := by decide +kernel
theorem dL_plusUnits_22 : decode cL_plusUnits 22 = .ok (.iconst 2, 1) := by decide +kernel
theorem dL_plusUnits_23 : decode cL_plusUnits 23 = .ok (.ireturn, 1) := by decide +kernel
theorem dL_plusUnits_24 : decode cL_plusUnits 24 = .ok (.iconst 0, 1) := by decide +kernel
theorem dL_plusUnits_25 : decode cL_plusUnits 25 = .ok (.ireturn, 1) := by decide +kernel
theorem dL_year_0 : decode cL_year 0 = .ok (.aload_n 2, 1) := by decide +kernel
theorem dL_year_1 : decode cL_year 1 = .ok (.aload_n 0, 1) := by decide +kernel
theorem dL_year_2 : decode cL_year 2 = .ok (.iload_n 1, 1) := by decide +kernel
theorem dL_year_3 : decode cL_year 3 = .ok (.invokevirtual 119, 3) := by decide +kernel
theorem dL_year_6 : decode cL_year 6 = .ok (.i2l, 1) := by decide +kernel
theorem dL_year_7 : decode cL_year 7 = .ok (.putfield 13, 3) := by decide +kernel
theorem dL_year_10 : decode cL_year 10 = .ok (.goto 6, 3) := by decide +kernel
theorem dL_year_13 : decode cL_year 13 = .ok (.astore_n 3, 1) := by decide +kernel
theorem dL_year_14 : decode cL_year 14 = .ok (.iconst 1, 1) := by decide +kernel
theorem dL_year_15 : decode cL_year 15 = .ok (.ireturn, 1) := by decide +kernel
theorem dL_year_16 : decode cL_year 16 = .ok (.iconst 0, 1) := by decide +kernel
theorem dL_year_17 : decode cL_year 17 = .ok (.ireturn, 1) := by decide +kernel
theorem dL_month_0 : decode cL_month 0 = .ok (.aload_n 2, 1) := by decide +kernel
theorem dL_month_1 : decode cL_month 1 = .ok (.aload_n 0, 1) := by decide +kernel
theorem dL_month_2 : decode cL_month 2 = .ok (.iload_n 1, 1) := by decide +kernel
theorem dL_month_3 : decode cL_month 3 = .ok (.invokevirtual 123, 3) := by decide +kernel
theorem dL_month_6 : decode cL_month 6 = .ok (.i2l, 1) := by decide +kernel
theorem dL_month_7 : decode cL_month 7 = .ok (.putfield 13, 3) := by decide +kernel
theorem dL_month_10 : decode cL_month 10 = .ok (.goto 6, 3) := by decide +kernel
theorem dL_month_13 : decode cL_month 13 = .ok (.astore_n 3, 1) := by decide +kernel
theorem dL_month_14 : decode cL_month 14 = .ok (.iconst 1, 1) := by decide +kernel
theorem dL_month_15 : decode cL_month 15 = .ok (.ireturn, 1) := by decide +kernel
theorem dL_month_16 : decode cL_month 16 = .ok (.iconst 0, 1) := by decide +kernel
theorem dL_month_17 : decode cL_month 17 = .ok (.ireturn, 1) := by decide +kernel
theorem dL_dayOfMonth_0 : decode cL_dayOfMonth 0 = .ok (.aload_n 2, 1) := by decide +kernel
theorem dL_dayOfMonth_1 : decode cL_dayOfMonth 1 = .ok (.aload_n 0, 1) := by decide +kernel
theorem dL_dayOfMonth_2 : decode cL_dayOfMonth 2 = .ok (.iload_n 1, 1) := by decide +kernel
theorem dL_dayOfMonth_3 : decode cL_dayOfMonth 3 = .ok (.invokevirtual 126, 3) := by decide +kernel
theorem dL_dayOfMonth_6 : decode cL_dayOfMonth 6 = .ok (.i2l, 1) := by decide +kernel
theorem dL_dayOfMonth_7 : decode cL_dayOfMonth 7 = .ok (.putfield 13, 3) := by decide +kernel
theorem dL_dayOfMonth_10 : decode cL_dayOfMonth 10 = .ok (.goto 6, 3) := by decide +kernel
theorem dL_dayOfMonth_13 : decode cL_dayOfMonth 13 = .ok (.astore_n 3, 1) := by decide +kernel
theorem dL_dayOfMonth_14 : decode cL_dayOfMonth 14 = .ok (.iconst 1, 1) := by decide +kernel
theorem dL_dayOfMonth_15 : decode cL_dayOfMonth 15 = .ok (.ireturn, 1) := by decide +kernel
theorem dL_dayOfMonth_16 : decode cL_dayOfMonth 16 = .ok (.iconst 0, 1) := by decide +kernel
theorem dL_dayOfMonth_17 : decode cL_dayOfMonth 17 = .ok (.ireturn, 1) := by decide +kernel
theorem dL_dayOfYear_0 : decode cL_dayOfYear 0 = .ok (.aload_n 2, 1) := by decide +kernel
theorem dL_dayOfYear_1 : decode cL_dayOfYear 1 = .ok (.aload_n 0, 1) := by decide +kernel
theorem dL_dayOfYear_2 : decode cL_dayOfYear 2 = .ok (.iload_n 1, 1) := by decide +kernel
theorem dL_dayOfYear_3 : decode cL_dayOfYear 3 = .ok (.invokevirtual 129, 3) := by decide +kernel
theorem dL_dayOfYear_6 : decode cL_dayOfYear 6 = .ok (.i2l, 1) := by decide +kernel
theorem dL_dayOfYear_7 : decode cL_dayOfYear 7 = .ok (.putfield 13, 3) := by decide +kernel
theorem dL_dayOfYear_10 : decode cL_dayOfYear 10 = .ok (.goto 6, 3) := by decide +kernel
theorem dL_dayOfYear_13 : decode cL_dayOfYear 13 = .ok (.astore_n 3, 1) := by decide +kernel
theorem dL_dayOfYear_14 : decode cL_dayOfYear 14 = .ok (.iconst 1, 1) := by decide +kernel
theorem dL_dayOfYear_15 : decode cL_dayOfYear 15 = .ok (.ireturn, 1) := by decide +kernel
theorem dL_dayOfYear_16 : decode cL_dayOfYear 16 = .ok (.iconst 0, 1) := by decide +kernel
theorem dL_dayOfYear_17 : decode cL_dayOfYear 17 = .ok (.ireturn, 1) := by decide +kernel
theorem dL_dayOfWeek_0 : decode cL_dayOfWeek 0 = .ok (.aload_n 2, 1) := by decide +kernel
theorem dL_dayOfWeek_1 : decode cL_dayOfWeek 1 = .ok (.aload_n 0, 1) := by decide +kernel
theorem dL_dayOfWeek_2 : decode cL_dayOfWeek 2 = .ok (.iload_n 1, 1) := by decide +kernel
theorem dL_dayOfWeek_3 : decode cL_dayOfWeek 3 = .ok (.invokevirtual 132, 3) := by decide +kernel
theorem dL_dayOfWeek_6 : decode cL_dayOfWeek 6 = .ok (.i2l, 1) := by decide +kernel
theorem dL_dayOfWeek_7 : decode cL_dayOfWeek 7 = .ok (.putfield 13, 3) := by decide +kernel
theorem dL_dayOfWeek_10 : decode cL_dayOfWeek 10 = .ok (.goto 6, 3) := by decide +kernel
theorem dL_dayOfWeek_13 : decode cL_dayOfWeek 13 = .ok (.astore_n 3, 1) := by decide +kernel
theorem dL_dayOfWeek_14 : decode cL_dayOfWeek 14 = .ok (.iconst 1, 1) := by decide +kernel
theorem dL_dayOfWeek_15 : decode cL_dayOfWeek 15 = .ok (.ireturn, 1) := by decide +kernel
theorem dL_dayOfWeek_16 : decode cL_dayOfWeek 16 = .ok (.iconst 0, 1) := by decide +kernel
theorem dL_dayOfWeek_17 : decode cL_dayOfWeek 17 = .ok (.ireturn, 1) := by decide +kernel
theorem dL_hour_0 : decode cL_hour 0 = .ok (.aload_n 2, 1) := by decide +kernel
theorem dL_hour_1 : decode cL_hour 1 = .ok (.aload_n 0, 1) := by decide +kernel
theorem dL_hour_2 : decode cL_hour 2 = .ok (.iload_n 1, 1) := by decide +kernel
theorem dL_hour_3 : decode cL_hour 3 = .ok (.invokevirtual 135, 3) := by decide +kernel
theorem dL_hour_6 : decode cL_hour 6 = .ok (.i2l, 1) := by decide +kernel
theorem dL_hour_7 : decode cL_hour 7 = .ok (.putfield 13, 3) := by decide +kernel
theorem dL_hour_10 : decode cL_hour 10 = .ok (.goto 6, 3) := by decide +kernel
theorem dL_hour_13 : decode cL_hour 13 = .ok (.astore_n 3, 1) := by decide +kernel
theorem dL_hour_14 : decode cL_hour 14 = .ok (.iconst 1, 1) := by decide +kernel
theorem dL_hour_15 : decode cL_hour 15 = .ok (.ireturn, 1) := by decide +kernel
theorem dL_hour_16 : decode cL_hour 16 = .ok (.iconst 0, 1) := by decide +kernel
theorem dL_hour_17 : decode cL_hour 17 = .ok (.ireturn, 1) := by decide +kernel
theorem dL_minute_0 : decode cL_minute 0 = .ok (.aload_n 2, 1) := by decide +kernel
theorem dL_minute_1 : decode cL_minute 1 = .ok (.aload_n 0, 1) := by decide +kernel
theorem dL_minute_2 : decode cL_minute 2 = .ok (.iload_n 1, 1) := by decide +kernel
theorem dL_minute_3 : decode cL_minute 3 = .ok (.invokevirtual 138, 3) := by decide +kernel
theorem dL_minute_6 : decode cL_minute 6 = .ok (.i2l, 1) := by decide +kernel
theorem dL_minute_7 : decode cL_minute 7 = .ok (.putfield 13, 3) := by decide +kernel
theorem dL_minute_10 : decode cL_minute 10 = .ok (.goto 6, 3) := by decide +kernel
theorem dL_minute_13 : decode cL_minute 13 = .ok (.astore_n 3, 1) := by decide +kernel
theorem dL_minute_14 : decode cL_minute 14 = .ok (.iconst 1, 1) := by decide +kernel
theorem dL_minute_15 : decode cL_minute 15 = .ok (.ireturn, 1) := by decide +kernel
theorem dL_minute_16 : decode cL_minute 16 = .ok (.iconst 0, 1) := by decide +kernel
theorem dL_minute_17 : decode cL_minute 17 = .ok (.ireturn, 1) := by decide +kernel
theorem dL_second_0 : decode cL_second 0 = .ok (.aload_n 2, 1) := by decide +kernel
theorem dL_second_1 : decode cL_second 1 = .ok (.aload_n 0, 1) := by decide +kernel
theorem dL_second_2 : decode cL_second 2 = .ok (.iload_n 1, 1) := by decide +kernel
theorem dL_second_3 : decode cL_second 3 = .ok (.invokevirtual 141, 3) := by decide +kernel
theorem dL_second_6 : decode cL_second 6 = .ok (.i2l, 1) := by decide +kernel
theorem dL_second_7 : decode cL_second 7 = .ok (.putfield 13, 3) := by decide +kernel
theorem dL_second_10 : decode cL_second 10 = .ok (.goto 6, 3) := by decide +kernel
theorem dL_second_13 : decode cL_second 13 = .ok (.astore_n 3, 1) := by decide +kernel
theorem dL_second_14 : decode cL_second 14 = .ok (.iconst 1, 1) := by decide +kernel
theorem dL_second_15 : decode cL_second 15 = .ok (.ireturn, 1) := by decide +kernel
theorem dL_second_16 : decode cL_second 16 = .ok (.iconst 0, 1) := by decide +kernel
theorem dL_second_17 : decode cL_second 17 = .ok (.ireturn, 1) := by decide +kernel
theorem dL_nano_0 : decode cL_nano 0 = .ok (.aload_n 2, 1) := by decide +kernel
theorem dL_nano_1 : decode cL_nano 1 = .ok (.aload_n 0, 1) := by decide +kernel
theorem dL_nano_2 : decode cL_nano 2 = .ok (.iload_n 1, 1) := by decide +kernel
theorem dL_nano_3 : decode cL_nano 3 = .ok (.invokevirtual 144, 3) := by decide +kernel
theorem dL_nano_6 : decode cL_nano 6 = .ok (.i2l, 1) := by decide +kernel
theorem dL_nano_7 : decode cL_nano 7 = .ok (.putfield 13, 3) := by decide +kernel
theorem dL_nano_10 : decode cL_nano 10 = .ok (.goto 6, 3) := by decide +kernel
theorem dL_nano_13 : decode cL_nano 13 = .ok (.astore_n 3, 1) := by decide +kernel
theorem dL_nano_14 : decode cL_nano 14 = .ok (.iconst 1, 1) := by decide +kernel
theorem dL_nano_15 : decode cL_nano 15 = .ok (.ireturn, 1) := by decide +kernel
theorem dL_nano_16 : decode cL_nano 16 = .ok (.iconst 0, 1) := by decide +kernel
theorem dL_nano_17 : decode cL_nano 17 = .ok (.ireturn, 1) := by decide +kernel
theorem dL_day_0 : decode cL_day 0 = .ok (.aload_n 2, 1) := by decide +kernel
theorem dL_day_1 : decode cL_day 1 = .ok (.aload_n 0, 1) := by decide +kernel
theorem dL_day_2 : decode cL_day 2 = .ok (.iload_n 1, 1) := by decide +kernel
theorem dL_day_3 : decode cL_day 3 = .ok (.invokevirtual 147, 3) := by decide +kernel
theorem dL_day_6 : decode cL_day 6 = .ok (.i2l, 1) := by decide +kernel
theorem dL_day_7 : decode cL_day 7 = .ok (.putfield 13, 3) := by decide +kernel
theorem dL_day_10 : decode cL_day 10 = .ok (.goto 6, 3) := by decide +kernel
theorem dL_day_13 : decode cL_day 13 = .ok (.astore_n 3, 1) := by decide +kernel
theorem dL_day_14 : decode cL_day 14 = .ok (.iconst 1, 1) := by decide +kernel
theorem dL_day_15 : decode cL_day 15 = .ok (.ireturn, 1) := by decide +kernel
theorem dL_day_16 : decode cL_day 16 = .ok (.iconst 0, 1) := by decide +kernel
theorem dL_day_17 : decode cL_day 17 = .ok (.ireturn, 1) := by decide +kernel
theorem dL_secondOfDay_0 : decode cL_secondOfDay 0 = .ok (.aload_n 2, 1) := by decide +kernel
theorem dL_secondOfDay_1 : decode cL_secondOfDay 1 = .ok (.aload_n 0, 1) := by decide +kernel
theorem dL_secondOfDay_2 : decode cL_secondOfDay 2 = .ok (.iload_n 1, 1) := by decide +kernel
theorem dL_secondOfDay_3 : decode cL_secondOfDay 3 = .ok (.invokevirtual 150, 3) := by decide +kernel
theorem dL_secondOfDay_6 : decode cL_secondOfDay 6 = .ok (.i2l, 1) := by decide +kernel
theorem dL_secondOfDay_7 : decode cL_secondOfDay 7 = .ok (.putfield 13, 3) := by decide +kernel
theorem dL_secondOfDay_10 : decode cL_secondOfDay 10 = .ok (.goto 6, 3) := by decide +kernel
theorem dL_secondOfDay_13 : decode cL_secondOfDay 13 = .ok (.astore_n 3, 1) := by decide +kernel
theorem dL_secondOfDay_14 : decode cL_secondOfDay 14 = .ok (.iconst 1, 1) := by decide +kernel
theorem dL_secondOfDay_15 : decode cL_secondOfDay 15 = .ok (.ireturn, 1) := by decide +kernel
theorem dL_secondOfDay_16 : decode cL_secondOfDay 16 = .ok (.iconst 0, 1) := by decide +kernel
theorem dL_secondOfDay_17 : decode cL_secondOfDay 17 = .ok (.ireturn, 1) := by decide +kernel
theorem dL_lengthOfMonth_0 : decode cL_lengthOfMonth 0 = .ok (.aload_n 2, 1) := by decide +kernel
theorem dL_lengthOfMonth_1 : decode cL_lengthOfMonth 1 = .ok (.aload_n 0, 1) := by decide +kernel
theorem dL_lengthOfMonth_2 : decode cL_lengthOfMonth 2 = .ok (.iload_n 1, 1) := by decide +kernel
theorem dL_lengthOfMonth_3 : decode cL_lengthOfMonth 3 = .ok (.invokevirtual 153, 3) := by decide +kernel
theorem dL_lengthOfMonth_6 : decode cL_lengthOfMonth 6 = .ok (.i2l, 1) := by decide +kernel
theorem dL_lengthOfMonth_7 : decode cL_lengthOfMonth 7 = .ok (.putfield 13, 3) := by decide +kernel
theorem dL_lengthOfMonth_10 : decode cL_lengthOfMonth 10 = .ok (.goto 6, 3) := by decide +kernel
theorem dL_lengthOfMonth_13 : decode cL_lengthOfMonth 13 = .ok (.astore_n 3, 1) := by decide +kernel
theorem dL_lengthOfMonth_14 : decode cL_lengthOfMonth 14 = .ok (.iconst 1, 1) := by decide +kernel
theorem dL_lengthOfMonth_15 : decode cL_lengthOfMonth 15 = .ok (.ireturn, 1) := by decide +kernel
theorem dL_lengthOfMonth_16 : decode cL_lengthOfMonth 16 = .ok (.iconst 0, 1) := by decide +kernel
theorem dL_lengthOfMonth_17 : decode cL_lengthOfMonth 17 = .ok (.ireturn, 1) := by decide +kernel
theorem dL_nanoOfDay_0 : decode cL_nanoOfDay 0 = .ok (.aload_n 2, 1) := by decide +kernel
theorem dL_nanoOfDay_1 : decode cL_nanoOfDay 1 = .ok (.aload_n 0, 1) := by decide +kernel
theorem dL_nanoOfDay_2 : decode cL_nanoOfDay 2 = .ok (.iload_n 1, 1) := by decide +kernel
theorem dL_nanoOfDay_3 : decode cL_nanoOfDay 3 = .ok (.invokevirtual 156, 3) := by decide +kernel
theorem dL_nanoOfDay_6 : decode cL_nanoOfDay 6 = .ok (.putfield 160, 3) := by decide +kernel
theorem dL_nanoOfDay_9 : decode cL_nanoOfDay 9 = .ok (.goto 6, 3) := by decide +kernel
theorem dL_nanoOfDay_12 : decode cL_nanoOfDay 12 = .ok (.astore_n 3, 1) := by decide +kernel
theorem dL_nanoOfDay_13 : decode cL_nanoOfDay 13 = .ok (.iconst 1, 1) := by decide +kernel
theorem dL_nanoOfDay_14 : decode cL_nanoOfDay 14 = .ok (.ireturn, 1) := by decide +kernel
theorem dL_nanoOfDay_15 : decode cL_nanoOfDay 15 = .ok (.iconst 0, 1) := by decide +kernel
theorem dL_nanoOfDay_16 : decode cL_nanoOfDay 16 = .ok (.ireturn, 1) := by decide +kernel
theorem dL_isLeap_0 : decode cL_isLeap 0 = .ok (.aload_n 2, 1) := by decide +kernel
theorem dL_isLeap_1 : decode cL_isLeap 1 = .ok (.aload_n 0, 1) := by decide +kernel
theorem dL_isLeap_2 : decode cL_isLeap 2 = .ok (.iload_n 1, 1) := by decide +kernel
theorem dL_isLeap_3 : decode cL_isLeap 3 = .ok (.invokevirtual 164, 3) := by decide +kernel
theorem dL_isLeap_6 : decode cL_isLeap 6 = .ok (.ifCond .eq 7, 3) := by decide +kernel
theorem dL_isLeap_9 : decode cL_isLeap 9 = .ok (.lconst 1, 1) := by decide +kernel
theorem dL_isLeap_10 : decode cL_isLeap 10 = .ok (.goto 4, 3) := by decide +kernel
theorem dL_isLeap_13 : decode cL_isLeap 13 = .ok (.lconst 0, 1) := by decide +kernel
theorem dL_isLeap_14 : decode cL_isLeap 14 = .ok (.putfield 13, 3) := by decide +kernel
theorem dL_isLeap_17 : decode cL_isLeap 17 = .ok (.goto 6, 3) := by decide +kernel
theorem dL_isLeap_20 : decode cL_isLeap 20 = .ok (.astore_n 3, 1) := by decide +kernel
theorem dL_isLeap_21 : decode cL_isLeap 21 = .ok (.iconst 1, 1) := by decide +kernel
theorem dL_isLeap_22 : decode cL_isLeap 22 = .ok (.ireturn, 1) := by decide +kernel
theorem dL_isLeap_23 : decode cL_isLeap 23 = .ok (.iconst 0, 1) := by decide +kernel
theorem dL_isLeap_24 : decode cL_isLeap 24 = .ok (.ireturn, 1) := by decide +kernel
theorem dL_field_0 : decode cL_field 0 = .ok (.aload_n 3, 1) := by decide +kernel
theorem dL_field_1 : decode cL_field 1 = .ok (.aload_n 0, 1) := by decide +kernel
theorem dL_field_2 : decode cL_field 2 = .ok (.iload_n 1, 1) := by decide +kernel
theorem dL_field_3 : decode cL_field 3 = .ok (.iload_n 2, 1) := by decide +kernel
theorem dL_field_4 : decode cL_field 4 = .ok (.invokevirtual 168, 3) := by decide +kernel
theorem dL_field_7 : decode cL_field 7 = .ok (.putfield 160, 3) := by decide +kernel
theorem dL_field_10 : decode cL_field 10 = .ok (.goto 11, 3) := by decide +kernel
theorem dL_field_13 : decode cL_field 13 = .ok (.astore 4, 2) := by decide +kernel
theorem dL_field_15 : decode cL_field 15 = .ok (.iconst 1, 1) := by decide +kernel
theorem dL_field_16 : decode cL_field 16 = .ok (.ireturn, 1) := by decide +kernel
theorem dL_field_17 : decode cL_field 17 = .ok (.astore 4, 2) := by decide +kernel
theorem dL_field_19 : decode cL_field 19 = .ok (.iconst 2, 1) := by decide +kernel
theorem dL_field_20 : decode cL_field 20 = .ok (.ireturn, 1) := by decide +kernel
theorem dL_field_21 : decode cL_field 21 = .ok (.iconst 0, 1) := by decide +kernel
theorem dL_field_22 : decode cL_field 22 = .ok (.ireturn, 1) := by decide +kernel
theorem dL_compare_0 : decode cL_compare 0 = .ok (.aload_n 3, 1) := by decide +kernel
theorem dL_compare_1 : decode cL_compare 1 = .ok (.aload_n 0, 1) := by decide +kernel
theorem dL_compare_2 : decode cL_compare 2 = .ok (.iload_n 1, 1) := by decide +kernel
theorem dL_compare_3 : decode cL_compare 3 = .ok (.iload_n 2, 1) := by decide +kernel
theorem dL_compare_4 : decode cL_compare 4 = .ok (.invokevirtual 172, 3) := by decide +kernel
theorem dL_compare_7 : decode cL_compare 7 = .ok (.i2l, 1) := by decide +kernel
theorem dL_compare_8 : decode cL_compare 8 = .ok (.putfield 13, 3) := by decide +kernel
theorem dL_compare_11 : decode cL_compare 11 = .ok (.goto 7, 3) := by decide +kernel
theorem dL_compare_14 : decode cL_compare 14 = .ok (.astore 4, 2) := by decide +kernel
theorem dL_compare_16 : decode cL_compare 16 = .ok (.iconst 1, 1) := by decide +kernel
theorem dL_compare_17 : decode cL_compare 17 = .ok (.ireturn, 1) := by decide +kernel
theorem dL_compare_18 : decode cL_compare 18 = .ok (.iconst 0, 1) := by decide +kernel
theorem dL_compare_19 : decode cL_compare 19 = .ok (.ireturn, 1) := by decide +kernel
theorem dL_isSame_0 : decode cL_isSame 0 = .ok (.aload_n 3, 1) := by decide +kernel
theorem dL_isSame_1 : decode cL_isSame 1 = .ok (.aload_n 0, 1) := by decide +kernel
theorem dL_isSame_2 : decode cL_isSame 2 = .ok (.iload_n 1, 1) := by decide +kernel
theorem dL_isSame_3 : decode cL_isSame 3 = .ok (.iload_n 2, 1) := by decide +kernel
theorem dL_isSame_4 : decode cL_isSame 4 = .ok (.invokevirtual 175, 3) := by decide +kernel
theorem dL_isSame_7 : decode cL_isSame 7 = .ok (.ifCond .eq 7, 3) := by decide +kernel
theorem dL_isSame_10 : decode cL_isSame 10 = .ok (.lconst 1, 1) := by decide +kernel
theorem dL_isSame_11 : decode cL_isSame 11 = .ok (.goto 4, 3) := by decide +kernel
theorem dL_isSame_14 : decode cL_isSame 14 = .ok (.lconst 0, 1) := by decide +kernel
theorem dL_isSame_15 : decode cL_isSame 15 = .ok (.putfield 13, 3) := by decide +kernel
theorem dL_isSame_18 : decode cL_isSame 18 = .ok (.goto 7, 3) := by decide +kernel
theorem dL_isSame_21 : decode cL_isSame 21 = .ok (.astore 4, 2) := by decide +kernel
theorem dL_isSame_23 : decode cL_isSame 23 = .ok (.iconst 1, 1) := by decide +kernel
theorem dL_isSame_24 : decode cL_isSame 24 = .ok (.ireturn, 1) := by decide +kernel
theorem dL_isSame_25 : decode cL_isSame 25 = .ok (.iconst 0, 1) := by decide +kernel
theorem dL_isSame_26 : decode cL_isSame 26 = .ok (.ireturn, 1) := by decide +kernel
theorem dL_isSameAs_0 : decode cL_isSameAs 0 = .ok (.aload_n 3, 1) := by decide +kernel
theorem dL_isSameAs_1 : decode cL_isSameAs 1 = .ok (.aload_n 0, 1) := by decide +kernel
theorem dL_isSameAs_2 : decode cL_isSameAs 2 = .ok (.iload_n 1, 1) := by decide +kernel
theorem dL_isSameAs_3 : decode cL_isSameAs 3 = .ok (.iload_n 2, 1) := by decide +kernel
theorem dL_isSameAs_4 : decode cL_isSameAs 4 = .ok (.invokevirtual 179, 3) := by decide +kernel
theorem dL_isSameAs_7 : decode cL_isSameAs 7 = .ok (.ifCond .eq 7, 3) := by decide +kernel
theorem dL_isSameAs_10 : decode cL_isSameAs 10 = .ok (.lconst 1, 1) := by decide +kernel
theorem dL_isSameAs_11 : decode cL_isSameAs 11 = .ok (.goto 4, 3) := by decide +kernel
theorem dL_isSameAs_14 : decode cL_isSameAs 14 = .ok (.lconst 0, 1) := by decide +kernel
theorem dL_isSameAs_15 : decode cL_isSameAs 15 = .ok (.putfield 13, 3) := by decide +kernel
theorem dL_isSameAs_18 : decode cL_isSameAs 18 = .ok (.goto 11, 3) := by decide +kernel
theorem dL_isSameAs_21 : decode cL_isSameAs 21 = .ok (.astore 4, 2) := by decide +kernel
theorem dL_isSameAs_23 : decode cL_isSameAs 23 = .ok (.iconst 1, 1) := by decide +kernel
theorem dL_isSameAs_24 : decode cL_isSameAs 24 = .ok (.ireturn, 1) := by decide +kernel
theorem dL_isSameAs_25 : decode cL_isSameAs 25 = .ok (.astore 4, 2) := by decide +kernel
theorem dL_isSameAs_27 : decode cL_isSameAs 27 = .ok (.iconst 2, 1) := by decide +kernel
theorem dL_isSameAs_28 : decode cL_isSameAs 28 = .ok (.ireturn, 1) := by decide +kernel
theorem dL_isSameAs_29 : decode cL_isSameAs 29 = .ok (.iconst 0, 1) := by decide +kernel
theorem dL_isSameAs_30 : decode cL_isSameAs 30 = .ok (.ireturn, 1) := by decide +kernel
theorem dL_between_0 : decode cL_between 0 = .ok (.aload 4, 2) := by decide +kernel
theorem dL_between_2 : decode cL_between 2 = .ok (.aload_n 0, 1) := by decide +kernel
theorem dL_between_3 : decode cL_between 3 = .ok (.iload_n 1, 1) := by decide +kernel
theorem dL_between_4 : decode cL_between 4 = .ok (.iload_n 2, 1) := by decide +kernel
theorem dL_between_5 : decode cL_between 5 = .ok (.iload_n 3, 1) := by decide +kernel
theorem dL_between_6 : decode cL_between 6 = .ok (.invokevirtual 182, 3) := by decide +kernel
theorem dL_between_9 : decode cL_between 9 = .ok (.putfield 160, 3) := by decide +kernel
theorem dL_between_12 : decode cL_between 12 = .ok (.goto 11, 3) := by decide +kernel
theorem dL_between_15 : decode cL_between 15 = .ok (.astore 5, 2) := by decide +kernel
theorem dL_between_17 : decode cL_between 17 = .ok (.iconst 1, 1) := by decide +kernel
theorem dL_between_18 : decode cL_between 18 = .ok (.ireturn, 1) := by decide +kernel
theorem dL_between_19 : decode cL_between 19 = .ok (.astore 5, 2) := by decide +kernel
theorem dL_between_21 : decode cL_between 21 = .ok (.iconst 2, 1) := by decide +kernel
theorem dL_between_22 : decode cL_between 22 = .ok (.ireturn, 1) := by decide +kernel
theorem dL_between_23 : decode cL_between 23 = .ok (.iconst 0, 1) := by decide +kernel
theorem dL_between_24 : decode cL_between 24 = .ok (.ireturn, 1) := by decide +kernel
theorem dL_until_0 : decode cL_until 0 = .ok (.aload 4, 2) := by decide +kernel
theorem dL_until_2 : decode cL_until 2 = .ok (.aload_n 0, 1) := by decide +kernel
theorem dL_until_3 : decode cL_until 3 = .ok (.iload_n 1, 1) := by decide +kernel
theorem dL_until_4 : decode cL_until 4 = .ok (.iload_n 2, 1) := by decide +kernel
theorem dL_until_5 : decode cL_until 5 = .ok (.iload_n 3, 1) := by decide +kernel
theorem dL_until_6 : decode cL_until 6 = .ok (.invokevirtual 186, 3) := by decide +kernel
theorem dL_until_9 : decode cL_until 9 = .ok (.putfield 160, 3) := by decide +kernel
theorem dL_until_12 : decode cL_until 12 = .ok (.goto 11, 3) := by decide +kernel
theorem dL_until_15 : decode cL_until 15 = .ok (.astore 5, 2) := by decide +kernel
theorem dL_until_17 : decode cL_until 17 = .ok (.iconst 1, 1) := by decide +kernel
theorem dL_until_18 : decode cL_until 18 = .ok (.ireturn, 1) := by decide +kernel
theorem dL_until_19 : decode cL_until 19 = .ok (.astore 5, 2) := by decide +kernel
theorem dL_until_21 : decode cL_until 21 = .ok (.iconst 2, 1) := by decide +kernel
theorem dL_until_22 : decode cL_until 22 = .ok (.ireturn, 1) := by decide +kernel
theorem dL_until_23 : decode cL_until 23 = .ok (.iconst 0, 1) := by decide +kernel
theorem dL_until_24 : decode cL_until 24 = .ok (.ireturn, 1) := by decide +kernel
theorem dL_house_0 : decode cL_house 0 = .ok (.aload_n 2, 1) := by decide +kernel
theorem dL_house_1 : decode cL_house 1 = .ok (.aload_n 0, 1) := by decide +kernel
theorem dL_house_2 : decode cL_house 2 = .ok (.iload_n 1, 1) := by decide +kernel
theorem dL_house_3 : decode cL_house 3 = .ok (.invokevirtual 189, 3) := by decide +kernel
theorem dL_house_6 : decode cL_house 6 = .ok (.i2l, 1) := by decide +kernel
theorem dL_house_7 : decode cL_house 7 = .ok (.putfield 13, 3) := by decide +kernel
theorem dL_house_10 : decode cL_house 10 = .ok (.goto 6, 3) := by decide +kernel
theorem dL_house_13 : decode cL_house 13 = .ok (.astore_n 3, 1) := by decide +kernel
theorem dL_house_14 : decode cL_house 14 = .ok (.iconst 1, 1) := by decide +kernel
theorem dL_house_15 : decode cL_house 15 = .ok (.ireturn, 1) := by decide +kernel
theorem dL_house_16 : decode cL_house 16 = .ok (.iconst 0, 1) := by decide +kernel
theorem dL_house_17 : decode cL_house 17 = .ok (.ireturn, 1) := by decide +kernel
