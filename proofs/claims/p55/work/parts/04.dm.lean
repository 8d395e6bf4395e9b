theorem dX2_init_0 : decode cX2_init 0 = .ok (.aload_n 0, 1) := by decide +kernel
theorem dX2_init_1 : decode cX2_init 1 = .ok (.invokespecial 1, 3) := by decide +kernel
theorem dX2_init_4 : decode cX2_init 4 = .ok (.aload_n 0, 1) := by decide +kernel
theorem dX2_init_5 : decode cX2_init 5 = .ok (.bipush 6, 2) := by decide +kernel
theorem dX2_init_7 : decode cX2_init 7 = .ok (.newarray .int, 2) := by decide +kernel
theorem dX2_init_9 : decode cX2_init 9 = .ok (.dup, 1) := by decide +kernel
theorem dX2_init_10 : decode cX2_init 10 = .ok (.iconst 0, 1) := by decide +kernel
theorem dX2_init_11 : decode cX2_init 11 = .ok (.sipush 2000, 3) := by decide +kernel
theorem dX2_init_14 : decode cX2_init 14 = .ok (.iastore, 1) := by decide +kernel
theorem dX2_init_15 : decode cX2_init 15 = .ok (.dup, 1) := by decide +kernel
theorem dX2_init_16 : decode cX2_init 16 = .ok (.iconst 1, 1) := by decide +kernel
theorem dX2_init_17 : decode cX2_init 17 = .ok (.sipush 2000, 3) := by decide +kernel
theorem dX2_init_20 : decode cX2_init 20 = .ok (.iastore, 1) := by decide +kernel
theorem dX2_init_21 : decode cX2_init 21 = .ok (.dup, 1) := by decide +kernel
theorem dX2_init_22 : decode cX2_init 22 = .ok (.iconst 2, 1) := by decide +kernel
theorem dX2_init_23 : decode cX2_init 23 = .ok (.sipush 2000, 3) := by decide +kernel
theorem dX2_init_26 : decode cX2_init 26 = .ok (.iastore, 1) := by decide +kernel
theorem dX2_init_27 : decode cX2_init 27 = .ok (.dup, 1) := by decide +kernel
theorem dX2_init_28 : decode cX2_init 28 = .ok (.iconst 3, 1) := by decide +kernel
theorem dX2_init_29 : decode cX2_init 29 = .ok (.sipush 2000, 3) := by decide +kernel
theorem dX2_init_32 : decode cX2_init 32 = .ok (.iastore, 1) := by decide +kernel
theorem dX2_init_33 : decode cX2_init 33 = .ok (.dup, 1) := by decide +kernel
theorem dX2_init_34 : decode cX2_init 34 = .ok (.iconst 4, 1) := by decide +kernel
theorem dX2_init_35 : decode cX2_init 35 = .ok (.sipush 2000, 3) := by decide +kernel
theorem dX2_init_38 : decode cX2_init 38 = .ok (.iastore, 1) := by decide +kernel
theorem dX2_init_39 : decode cX2_init 39 = .ok (.dup, 1) := by decide +kernel
theorem dX2_init_40 : decode cX2_init 40 = .ok (.iconst 5, 1) := by decide +kernel
theorem dX2_init_41 : decode cX2_init 41 = .ok (.sipush 2000, 3) := by decide +kernel
theorem dX2_init_44 : decode cX2_init 44 = .ok (.iastore, 1) := by decide +kernel
theorem dX2_init_45 : decode cX2_init 45 = .ok (.putfield 7, 3) := by decide +kernel
theorem dX2_init_48 : decode cX2_init 48 = .ok (.aload_n 0, 1) := by decide +kernel
theorem dX2_init_49 : decode cX2_init 49 = .ok (.bipush 6, 2) := by decide +kernel
theorem dX2_init_51 : decode cX2_init 51 = .ok (.newarray .int, 2) := by decide +kernel
theorem dX2_init_53 : decode cX2_init 53 = .ok (.dup, 1) := by decide +kernel
theorem dX2_init_54 : decode cX2_init 54 = .ok (.iconst 0, 1) := by decide +kernel
theorem dX2_init_55 : decode cX2_init 55 = .ok (.iconst 1, 1) := by decide +kernel
theorem dX2_init_56 : decode cX2_init 56 = .ok (.iastore, 1) := by decide +kernel
theorem dX2_init_57 : decode cX2_init 57 = .ok (.dup, 1) := by decide +kernel
theorem dX2_init_58 : decode cX2_init 58 = .ok (.iconst 1, 1) := by decide +kernel
theorem dX2_init_59 : decode cX2_init 59 = .ok (.iconst 1, 1) := by decide +kernel
theorem dX2_init_60 : decode cX2_init 60 = .ok (.iastore, 1) := by decide +kernel
theorem dX2_init_61 : decode cX2_init 61 = .ok (.dup, 1) := by decide +kernel
theorem dX2_init_62 : decode cX2_init 62 = .ok (.iconst 2, 1) := by decide +kernel
theorem dX2_init_63 : decode cX2_init 63 = .ok (.iconst 1, 1) := by decide +kernel
theorem dX2_init_64 : decode cX2_init 64 = .ok (.iastore, 1) := by decide +kernel
theorem dX2_init_65 : decode cX2_init 65 = .ok (.dup, 1) := by decide +kernel
theorem dX2_init_66 : decode cX2_init 66 = .ok (.iconst 3, 1) := by decide +kernel
theorem dX2_init_67 : decode cX2_init 67 = .ok (.iconst 1, 1) := by decide +kernel
theorem dX2_init_68 : decode cX2_init 68 = .ok (.iastore, 1) := by decide +kernel
theorem dX2_init_69 : decode cX2_init 69 = .ok (.dup, 1) := by decide +kernel
theorem dX2_init_70 : decode cX2_init 70 = .ok (.iconst 4, 1) := by decide +kernel
theorem dX2_init_71 : decode cX2_init 71 = .ok (.iconst 1, 1) := by decide +kernel
theorem dX2_init_72 : decode cX2_init 72 = .ok (.iastore, 1) := by decide +kernel
theorem dX2_init_73 : decode cX2_init 73 = .ok (.dup, 1) := by decide +kernel
theorem dX2_init_74 : decode cX2_init 74 = .ok (.iconst 5, 1) := by decide +kernel
theorem dX2_init_75 : decode cX2_init 75 = .ok (.iconst 1, 1) := by decide +kernel
theorem dX2_init_76 : decode cX2_init 76 = .ok (.iastore, 1) := by decide +kernel
theorem dX2_init_77 : decode cX2_init 77 = .ok (.putfield 13, 3) := by decide +kernel
theorem dX2_init_80 : decode cX2_init 80 = .ok (.aload_n 0, 1) := by decide +kernel
theorem dX2_init_81 : decode cX2_init 81 = .ok (.bipush 6, 2) := by decide +kernel
theorem dX2_init_83 : decode cX2_init 83 = .ok (.newarray .int, 2) := by decide +kernel
theorem dX2_init_85 : decode cX2_init 85 = .ok (.dup, 1) := by decide +kernel
theorem dX2_init_86 : decode cX2_init 86 = .ok (.iconst 0, 1) := by decide +kernel
theorem dX2_init_87 : decode cX2_init 87 = .ok (.iconst 1, 1) := by decide +kernel
theorem dX2_init_88 : decode cX2_init 88 = .ok (.iastore, 1) := by decide +kernel
theorem dX2_init_89 : decode cX2_init 89 = .ok (.dup, 1) := by decide +kernel
theorem dX2_init_90 : decode cX2_init 90 = .ok (.iconst 1, 1) := by decide +kernel
theorem dX2_init_91 : decode cX2_init 91 = .ok (.iconst 1, 1) := by decide +kernel
theorem dX2_init_92 : decode cX2_init 92 = .ok (.iastore, 1) := by decide +kernel
theorem dX2_init_93 : decode cX2_init 93 = .ok (.dup, 1) := by decide +kernel
theorem dX2_init_94 : decode cX2_init 94 = .ok (.iconst 2, 1) := by decide +kernel
theorem dX2_init_95 : decode cX2_init 95 = .ok (.iconst 1, 1) := by decide +kernel
theorem dX2_init_96 : decode cX2_init 96 = .ok (.iastore, 1) := by decide +kernel
theorem dX2_init_97 : decode cX2_init 97 = .ok (.dup, 1) := by decide +kernel
theorem dX2_init_98 : decode cX2_init 98 = .ok (.iconst 3, 1) := by decide +kernel
theorem dX2_init_99 : decode cX2_init 99 = .ok (.iconst 1, 1) := by decide +kernel
theorem dX2_init_100 : decode cX2_init 100 = .ok (.iastore, 1) := by decide +kernel
theorem dX2_init_101 : decode cX2_init 101 = .ok (.dup, 1) := by decide +kernel
theorem dX2_init_102 : decode cX2_init 102 = .ok (.iconst 4, 1) := by decide +kernel
theorem dX2_init_103 : decode cX2_init 103 = .ok (.iconst 1, 1) := by decide +kernel
theorem dX2_init_104 : decode cX2_init 104 = .ok (.iastore, 1) := by decide +kernel
theorem dX2_init_105 : decode cX2_init 105 = .ok (.dup, 1) := by decide +kernel
theorem dX2_init_106 : decode cX2_init 106 = .ok (.iconst 5, 1) := by decide +kernel
theorem dX2_init_107 : decode cX2_init 107 = .ok (.iconst 1, 1) := by decide +kernel
theorem dX2_init_108 : decode cX2_init 108 = .ok (.iastore, 1) := by decide +kernel
theorem dX2_init_109 : decode cX2_init 109 = .ok (.putfield 16, 3) := by decide +kernel
theorem dX2_init_112 : decode cX2_init 112 = .ok (.aload_n 0, 1) := by decide +kernel
theorem dX2_init_113 : decode cX2_init 113 = .ok (.bipush 6, 2) := by decide +kernel
theorem dX2_init_115 : decode cX2_init 115 = .ok (.newarray .long, 2) := by decide +kernel
theorem dX2_init_117 : decode cX2_init 117 = .ok (.putfield 19, 3) := by decide +kernel
theorem dX2_init_120 : decode cX2_init 120 = .ok (.return_, 1) := by decide +kernel
theorem dX2_isLeapYear_0 : decode cX2_isLeapYear 0 = .ok (.iload_n 0, 1) := by decide +kernel
theorem dX2_isLeapYear_1 : decode cX2_isLeapYear 1 = .ok (.sipush 400, 3) := by decide +kernel
theorem dX2_isLeapYear_4 : decode cX2_isLeapYear 4 = .ok (.irem, 1) := by decide +kernel
theorem dX2_isLeapYear_5 : decode cX2_isLeapYear 5 = .ok (.ifCond .eq 16, 3) := by decide +kernel
theorem dX2_isLeapYear_8 : decode cX2_isLeapYear 8 = .ok (.iload_n 0, 1) := by decide +kernel
theorem dX2_isLeapYear_9 : decode cX2_isLeapYear 9 = .ok (.iconst 4, 1) := by decide +kernel
theorem dX2_isLeapYear_10 : decode cX2_isLeapYear 10 = .ok (.irem, 1) := by decide +kernel
theorem dX2_isLeapYear_11 : decode cX2_isLeapYear 11 = .ok (.ifCond .ne 14, 3) := by decide +kernel
theorem dX2_isLeapYear_14 : decode cX2_isLeapYear 14 = .ok (.iload_n 0, 1) := by decide +kernel
theorem dX2_isLeapYear_15 : decode cX2_isLeapYear 15 = .ok (.bipush 100, 2) := by decide +kernel
theorem dX2_isLeapYear_17 : decode cX2_isLeapYear 17 = .ok (.irem, 1) := by decide +kernel
theorem dX2_isLeapYear_18 : decode cX2_isLeapYear 18 = .ok (.ifCond .eq 7, 3) := by decide +kernel
theorem dX2_isLeapYear_21 : decode cX2_isLeapYear 21 = .ok (.iconst 1, 1) := by decide +kernel
theorem dX2_isLeapYear_22 : decode cX2_isLeapYear 22 = .ok (.goto 4, 3) := by decide +kernel
theorem dX2_isLeapYear_25 : decode cX2_isLeapYear 25 = .ok (.iconst 0, 1) := by decide +kernel
theorem dX2_isLeapYear_26 : decode cX2_isLeapYear 26 = .ok (.ireturn, 1) := by decide +kernel
theorem dX2_daysOf_0 : decode cX2_daysOf 0 = .ok (.iload_n 1, 1) := by decide +kernel
theorem dX2_daysOf_1 : decode cX2_daysOf 1 = .ok (.iconst 2, 1) := by decide +kernel
theorem dX2_daysOf_2 : decode cX2_daysOf 2 = .ok (.if_icmp .ne 18, 3) := by decide +kernel
theorem dX2_daysOf_5 : decode cX2_daysOf 5 = .ok (.iload_n 0, 1) := by decide +kernel
theorem dX2_daysOf_6 : decode cX2_daysOf 6 = .ok (.invokestatic 27, 3) := by decide +kernel
theorem dX2_daysOf_9 : decode cX2_daysOf 9 = .ok (.ifCond .eq 8, 3) := by decide +kernel
theorem dX2_daysOf_12 : decode cX2_daysOf 12 = .ok (.bipush 29, 2) := by decide +kernel
theorem dX2_daysOf_14 : decode cX2_daysOf 14 = .ok (.goto 5, 3) := by decide +kernel
theorem dX2_daysOf_17 : decode cX2_daysOf 17 = .ok (.bipush 28, 2) := by decide +kernel
theorem dX2_daysOf_19 : decode cX2_daysOf 19 = .ok (.ireturn, 1) := by decide +kernel
theorem dX2_daysOf_20 : decode cX2_daysOf 20 = .ok (.iload_n 1, 1) := by decide +kernel
theorem dX2_daysOf_21 : decode cX2_daysOf 21 = .ok (.iconst 4, 1) := by decide +kernel
theorem dX2_daysOf_22 : decode cX2_daysOf 22 = .ok (.if_icmp .eq 21, 3) := by decide +kernel
theorem dX2_daysOf_25 : decode cX2_daysOf 25 = .ok (.iload_n 1, 1) := by decide +kernel
theorem dX2_daysOf_26 : decode cX2_daysOf 26 = .ok (.bipush 6, 2) := by decide +kernel
theorem dX2_daysOf_28 : decode cX2_daysOf 28 = .ok (.if_icmp .eq 15, 3) := by decide +kernel
theorem dX2_daysOf_31 : decode cX2_daysOf 31 = .ok (.iload_n 1, 1) := by decide +kernel
theorem dX2_daysOf_32 : decode cX2_daysOf 32 = .ok (.bipush 9, 2) := by decide +kernel
theorem dX2_daysOf_34 : decode cX2_daysOf 34 = .ok (.if_icmp .eq 9, 3) := by decide +kernel
theorem dX2_daysOf_37 : decode cX2_daysOf 37 = .ok (.iload_n 1, 1) := by decide +kernel
theorem dX2_daysOf_38 : decode cX2_daysOf 38 = .ok (.bipush 11, 2) := by decide +kernel
theorem dX2_daysOf_40 : decode cX2_daysOf 40 = .ok (.if_icmp .ne 8, 3) := by decide +kernel
theorem dX2_daysOf_43 : decode cX2_daysOf 43 = .ok (.bipush 30, 2) := by decide +kernel
theorem dX2_daysOf_45 : decode cX2_daysOf 45 = .ok (.goto 5, 3) := by decide +kernel
theorem dX2_daysOf_48 : decode cX2_daysOf 48 = .ok (.bipush 31, 2) := by decide +kernel
theorem dX2_daysOf_50 : decode cX2_daysOf 50 = .ok (.ireturn, 1) := by decide +kernel
theorem dX2_daysOf__0 : decode cX2_daysOf_ 0 = .ok (.iload_n 0, 1) := by decide +kernel
theorem dX2_daysOf__1 : decode cX2_daysOf_ 1 = .ok (.invokestatic 27, 3) := by decide +kernel
theorem dX2_daysOf__4 : decode cX2_daysOf_ 4 = .ok (.ifCond .eq 9, 3) := by decide +kernel
theorem dX2_daysOf__7 : decode cX2_daysOf_ 7 = .ok (.sipush 366, 3) := by decide +kernel
theorem dX2_daysOf__10 : decode cX2_daysOf_ 10 = .ok (.goto 6, 3) := by decide +kernel
theorem dX2_daysOf__13 : decode cX2_daysOf_ 13 = .ok (.sipush 365, 3) := by decide +kernel
theorem dX2_daysOf__16 : decode cX2_daysOf_ 16 = .ok (.ireturn, 1) := by decide +kernel
theorem dX2_floor_0 : decode cX2_floor 0 = .ok (.lload_n 0, 1) := by decide +kernel
theorem dX2_floor_1 : decode cX2_floor 1 = .ok (.lload_n 2, 1) := by decide +kernel
theorem dX2_floor_2 : decode cX2_floor 2 = .ok (.ldiv, 1) := by decide +kernel
theorem dX2_floor_3 : decode cX2_floor 3 = .ok (.lstore 4, 2) := by decide +kernel
theorem dX2_floor_5 : decode cX2_floor 5 = .ok (.lload 4, 2) := by decide +kernel
theorem dX2_floor_7 : decode cX2_floor 7 = .ok (.lload_n 2, 1) := by decide +kernel
theorem dX2_floor_8 : decode cX2_floor 8 = .ok (.lmul, 1) := by decide +kernel
theorem dX2_floor_9 : decode cX2_floor 9 = .ok (.lload_n 0, 1) := by decide +kernel
theorem dX2_floor_10 : decode cX2_floor 10 = .ok (.lcmp, 1) := by decide +kernel
theorem dX2_floor_11 : decode cX2_floor 11 = .ok (.ifCond .le 10, 3) := by decide +kernel
theorem dX2_floor_14 : decode cX2_floor 14 = .ok (.lload 4, 2) := by decide +kernel
theorem dX2_floor_16 : decode cX2_floor 16 = .ok (.lconst 1, 1) := by decide +kernel
theorem dX2_floor_17 : decode cX2_floor 17 = .ok (.lsub, 1) := by decide +kernel
theorem dX2_floor_18 : decode cX2_floor 18 = .ok (.goto 5, 3) := by decide +kernel
theorem dX2_floor_21 : decode cX2_floor 21 = .ok (.lload 4, 2) := by decide +kernel
theorem dX2_floor_23 : decode cX2_floor 23 = .ok (.lreturn, 1) := by decide +kernel
theorem dX2_ahead_0 : decode cX2_ahead 0 = .ok (.ldc2_w 31, 3) := by decide +kernel
theorem dX2_ahead_3 : decode cX2_ahead 3 = .ok (.lload_n 0, 1) := by decide +kernel
theorem dX2_ahead_4 : decode cX2_ahead 4 = .ok (.lmul, 1) := by decide +kernel
theorem dX2_ahead_5 : decode cX2_ahead 5 = .ok (.lload_n 0, 1) := by decide +kernel
theorem dX2_ahead_6 : decode cX2_ahead 6 = .ok (.ldc2_w 33, 3) := by decide +kernel
theorem dX2_ahead_9 : decode cX2_ahead 9 = .ok (.ladd, 1) := by decide +kernel
theorem dX2_ahead_10 : decode cX2_ahead 10 = .ok (.ldc2_w 35, 3) := by decide +kernel
theorem dX2_ahead_13 : decode cX2_ahead 13 = .ok (.invokestatic 37, 3) := by decide +kernel
theorem dX2_ahead_16 : decode cX2_ahead 16 = .ok (.ladd, 1) := by decide +kernel
theorem dX2_ahead_17 : decode cX2_ahead 17 = .ok (.lload_n 0, 1) := by decide +kernel
theorem dX2_ahead_18 : decode cX2_ahead 18 = .ok (.ldc2_w 41, 3) := by decide +kernel
theorem dX2_ahead_21 : decode cX2_ahead 21 = .ok (.ladd, 1) := by decide +kernel
theorem dX2_ahead_22 : decode cX2_ahead 22 = .ok (.ldc2_w 43, 3) := by decide +kernel
theorem dX2_ahead_25 : decode cX2_ahead 25 = .ok (.invokestatic 37, 3) := by decide +kernel
theorem dX2_ahead_28 : decode cX2_ahead 28 = .ok (.lsub, 1) := by decide +kernel
theorem dX2_ahead_29 : decode cX2_ahead 29 = .ok (.lload_n 0, 1) := by decide +kernel
theorem dX2_ahead_30 : decode cX2_ahead 30 = .ok (.ldc2_w 45, 3) := by decide +kernel
theorem dX2_ahead_33 : decode cX2_ahead 33 = .ok (.ladd, 1) := by decide +kernel
theorem dX2_ahead_34 : decode cX2_ahead 34 = .ok (.ldc2_w 47, 3) := by decide +kernel
theorem dX2_ahead_37 : decode cX2_ahead 37 = .ok (.invokestatic 37, 3) := by decide +kernel
theorem dX2_ahead_40 : decode cX2_ahead 40 = .ok (.ladd, 1) := by decide +kernel
theorem dX2_ahead_41 : decode cX2_ahead 41 = .ok (.lreturn, 1) := by decide +kernel
theorem dX2_inYear_0 : decode cX2_inYear 0 = .ok (.iload_n 2, 1) := by decide +kernel
theorem dX2_inYear_1 : decode cX2_inYear 1 = .ok (.istore_n 3, 1) := by decide +kernel
theorem dX2_inYear_2 : decode cX2_inYear 2 = .ok (.iconst 1, 1) := by decide +kernel
theorem dX2_inYear_3 : decode cX2_inYear 3 = .ok (.istore 4, 2) := by decide +kernel
theorem dX2_inYear_5 : decode cX2_inYear 5 = .ok (.iload 4, 2) := by decide +kernel
theorem dX2_inYear_7 : decode cX2_inYear 7 = .ok (.iload_n 1, 1) := by decide +kernel
theorem dX2_inYear_8 : decode cX2_inYear 8 = .ok (.if_icmp .ge 18, 3) := by decide +kernel
theorem dX2_inYear_11 : decode cX2_inYear 11 = .ok (.iload_n 3, 1) := by decide +kernel
theorem dX2_inYear_12 : decode cX2_inYear 12 = .ok (.iload_n 0, 1) := by decide +kernel
theorem dX2_inYear_13 : decode cX2_inYear 13 = .ok (.iload 4, 2) := by decide +kernel
theorem dX2_inYear_15 : decode cX2_inYear 15 = .ok (.invokestatic 49, 3) := by decide +kernel
theorem dX2_inYear_18 : decode cX2_inYear 18 = .ok (.iadd, 1) := by decide +kernel
theorem dX2_inYear_19 : decode cX2_inYear 19 = .ok (.istore_n 3, 1) := by decide +kernel
theorem dX2_inYear_20 : decode cX2_inYear 20 = .ok (.iinc 4 1, 3) := by decide +kernel
theorem dX2_inYear_23 : decode cX2_inYear 23 = .ok (.goto (-18), 3) := by decide +kernel
theorem dX2_inYear_26 : decode cX2_inYear 26 = .ok (.iload_n 3, 1) := by decide +kernel
theorem dX2_inYear_27 : decode cX2_inYear 27 = .ok (.ireturn, 1) := by decide +kernel
theorem dX2_dayOf_0 : decode cX2_dayOf 0 = .ok (.iload_n 0, 1) := by decide +kernel
theorem dX2_dayOf_1 : decode cX2_dayOf 1 = .ok (.i2l, 1) := by decide +kernel
theorem dX2_dayOf_2 : decode cX2_dayOf 2 = .ok (.invokestatic 53, 3) := by decide +kernel
theorem dX2_dayOf_5 : decode cX2_dayOf 5 = .ok (.ldc2_w 57, 3) := by decide +kernel
theorem dX2_dayOf_8 : decode cX2_dayOf 8 = .ok (.invokestatic 53, 3) := by decide +kernel
theorem dX2_dayOf_11 : decode cX2_dayOf 11 = .ok (.lsub, 1) := by decide +kernel
theorem dX2_dayOf_12 : decode cX2_dayOf 12 = .ok (.iload_n 0, 1) := by decide +kernel
theorem dX2_dayOf_13 : decode cX2_dayOf 13 = .ok (.iload_n 1, 1) := by decide +kernel
theorem dX2_dayOf_14 : decode cX2_dayOf 14 = .ok (.iload_n 2, 1) := by decide +kernel
theorem dX2_dayOf_15 : decode cX2_dayOf 15 = .ok (.invokestatic 59, 3) := by decide +kernel
theorem dX2_dayOf_18 : decode cX2_dayOf 18 = .ok (.i2l, 1) := by decide +kernel
theorem dX2_dayOf_19 : decode cX2_dayOf 19 = .ok (.ladd, 1) := by decide +kernel
theorem dX2_dayOf_20 : decode cX2_dayOf 20 = .ok (.lconst 1, 1) := by decide +kernel
theorem dX2_dayOf_21 : decode cX2_dayOf 21 = .ok (.lsub, 1) := by decide +kernel
theorem dX2_dayOf_22 : decode cX2_dayOf 22 = .ok (.lreturn, 1) := by decide +kernel
theorem dX2_dateOf_0 : decode cX2_dateOf 0 = .ok (.lload_n 0, 1) := by decide +kernel
theorem dX2_dateOf_1 : decode cX2_dateOf 1 = .ok (.ldc2_w 57, 3) := by decide +kernel
theorem dX2_dateOf_4 : decode cX2_dateOf 4 = .ok (.invokestatic 53, 3) := by decide +kernel
theorem dX2_dateOf_7 : decode cX2_dateOf 7 = .ok (.ladd, 1) := by decide +kernel
theorem dX2_dateOf_8 : decode cX2_dateOf 8 = .ok (.lstore_n 2, 1) := by decide +kernel
theorem dX2_dateOf_9 : decode cX2_dateOf 9 = .ok (.ldc2_w 47, 3) := by decide +kernel
theorem dX2_dateOf_12 : decode cX2_dateOf 12 = .ok (.lload_n 2, 1) := by decide +kernel
theorem dX2_dateOf_13 : decode cX2_dateOf 13 = .ok (.ldc2_w 63, 3) := by decide +kernel
theorem dX2_dateOf_16 : decode cX2_dateOf 16 = .ok (.invokestatic 37, 3) := by decide +kernel
theorem dX2_dateOf_19 : decode cX2_dateOf 19 = .ok (.lmul, 1) := by decide +kernel
theorem dX2_dateOf_20 : decode cX2_dateOf 20 = .ok (.l2i, 1) := by decide +kernel
theorem dX2_dateOf_21 : decode cX2_dateOf 21 = .ok (.istore 4, 2) := by decide +kernel
theorem dX2_dateOf_23 : decode cX2_dateOf 23 = .ok (.lload_n 2, 1) := by decide +kernel
theorem dX2_dateOf_24 : decode cX2_dateOf 24 = .ok (.iload 4, 2) := by decide +kernel
theorem dX2_dateOf_26 : decode cX2_dateOf 26 = .ok (.i2l, 1) := by decide +kernel
theorem dX2_dateOf_27 : decode cX2_dateOf 27 = .ok (.invokestatic 53, 3) := by decide +kernel
theorem dX2_dateOf_30 : decode cX2_dateOf 30 = .ok (.lsub, 1) := by decide +kernel
theorem dX2_dateOf_31 : decode cX2_dateOf 31 = .ok (.lstore_n 2, 1) := by decide +kernel
theorem dX2_dateOf_32 : decode cX2_dateOf 32 = .ok (.lload_n 2, 1) := by decide +kernel
theorem dX2_dateOf_33 : decode cX2_dateOf 33 = .ok (.iload 4, 2) := by decide +kernel
theorem dX2_dateOf_35 : decode cX2_dateOf 35 = .ok (.invokestatic 65, 3) := by decide +kernel
theorem dX2_dateOf_38 : decode cX2_dateOf 38 = .ok (.i2l, 1) := by decide +kernel
theorem dX2_dateOf_39 : decode cX2_dateOf 39 = .ok (.lcmp, 1) := by decide +kernel
theorem dX2_dateOf_40 : decode cX2_dateOf 40 = .ok (.ifCond .lt 18, 3) := by decide +kernel
theorem dX2_dateOf_43 : decode cX2_dateOf 43 = .ok (.lload_n 2, 1) := by decide +kernel
theorem dX2_dateOf_44 : decode cX2_dateOf 44 = .ok (.iload 4, 2) := by decide +kernel
theorem dX2_dateOf_46 : decode cX2_dateOf 46 = .ok (.invokestatic 65, 3) := by decide +kernel
theorem dX2_dateOf_49 : decode cX2_dateOf 49 = .ok (.i2l, 1) := by decide +kernel
theorem dX2_dateOf_50 : decode cX2_dateOf 50 = .ok (.lsub, 1) := by decide +kernel
theorem dX2_dateOf_51 : decode cX2_dateOf 51 = .ok (.lstore_n 2, 1) := by decide +kernel
theorem dX2_dateOf_52 : decode cX2_dateOf 52 = .ok (.iinc 4 1, 3) := by decide +kernel
theorem dX2_dateOf_55 : decode cX2_dateOf 55 = .ok (.goto (-23), 3) := by decide +kernel
theorem dX2_dateOf_58 : decode cX2_dateOf 58 = .ok (.iconst 1, 1) := by decide +kernel
theorem dX2_dateOf_59 : decode cX2_dateOf 59 = .ok (.istore 5, 2) := by decide +kernel
theorem dX2_dateOf_61 : decode cX2_dateOf 61 = .ok (.lload_n 2, 1) := by decide +kernel
theorem dX2_dateOf_62 : decode cX2_dateOf 62 = .ok (.iload 4, 2) := by decide +kernel
theorem dX2_dateOf_64 : decode cX2_dateOf 64 = .ok (.iload 5, 2) := by decide +kernel
theorem dX2_dateOf_66 : decode cX2_dateOf 66 = .ok (.invokestatic 49, 3) := by decide +kernel
theorem dX2_dateOf_69 : decode cX2_dateOf 69 = .ok (.i2l, 1) := by decide +kernel
theorem dX2_dateOf_70 : decode cX2_dateOf 70 = .ok (.lcmp, 1) := by decide +kernel
theorem dX2_dateOf_71 : decode cX2_dateOf 71 = .ok (.ifCond .lt 20, 3) := by decide +kernel
theorem dX2_dateOf_74 : decode cX2_dateOf 74 = .ok (.lload_n 2, 1) := by decide +kernel
theorem dX2_dateOf_75 : decode cX2_dateOf 75 = .ok (.iload 4, 2) := by decide +kernel
theorem dX2_dateOf_77 : decode cX2_dateOf 77 = .ok (.iload 5, 2) := by decide +kernel
theorem dX2_dateOf_79 : decode cX2_dateOf 79 = .ok (.invokestatic 49, 3) := by decide +kernel
theorem dX2_dateOf_82 : decode cX2_dateOf 82 = .ok (.i2l, 1) := by decide +kernel
theorem dX2_dateOf_83 : decode cX2_dateOf 83 = .ok (.lsub, 1) := by decide +kernel
theorem dX2_dateOf_84 : decode cX2_dateOf 84 = .ok (.lstore_n 2, 1) := by decide +kernel
theorem dX2_dateOf_85 : decode cX2_dateOf 85 = .ok (.iinc 5 1, 3) := by decide +kernel
theorem dX2_dateOf_88 : decode cX2_dateOf 88 = .ok (.goto (-27), 3) := by decide +kernel
theorem dX2_dateOf_91 : decode cX2_dateOf 91 = .ok (.iconst 3, 1) := by decide +kernel
theorem dX2_dateOf_92 : decode cX2_dateOf 92 = .ok (.newarray .int, 2) := by decide +kernel
theorem dX2_dateOf_94 : decode cX2_dateOf 94 = .ok (.dup, 1) := by decide +kernel
theorem dX2_dateOf_95 : decode cX2_dateOf 95 = .ok (.iconst 0, 1) := by decide +kernel
theorem dX2_dateOf_96 : decode cX2_dateOf 96 = .ok (.iload 4, 2) := by decide +kernel
theorem dX2_dateOf_98 : decode cX2_dateOf 98 = .ok (.iastore, 1) := by decide +kernel
theorem dX2_dateOf_99 : decode cX2_dateOf 99 = .ok (.dup, 1) := by decide +kernel
theorem dX2_dateOf_100 : decode cX2_dateOf 100 = .ok (.iconst 1, 1) := by decide +kernel
theorem dX2_dateOf_101 : decode cX2_dateOf 101 = .ok (.iload 5, 2) := by decide +kernel
theorem dX2_dateOf_103 : decode cX2_dateOf 103 = .ok (.iastore, 1) := by decide +kernel
theorem dX2_dateOf_104 : decode cX2_dateOf 104 = .ok (.dup, 1) := by decide +kernel
theorem dX2_dateOf_105 : decode cX2_dateOf 105 = .ok (.iconst 2, 1) := by decide +kernel
theorem dX2_dateOf_106 : decode cX2_dateOf 106 = .ok (.lload_n 2, 1) := by decide +kernel
theorem dX2_dateOf_107 : decode cX2_dateOf 107 = .ok (.l2i, 1) := by decide +kernel
theorem dX2_dateOf_108 : decode cX2_dateOf 108 = .ok (.iconst 1, 1) := by decide +kernel
theorem dX2_dateOf_109 : decode cX2_dateOf 109 = .ok (.iadd, 1) := by decide +kernel
theorem dX2_dateOf_110 : decode cX2_dateOf 110 = .ok (.iastore, 1) := by decide +kernel
theorem dX2_dateOf_111 : decode cX2_dateOf 111 = .ok (.areturn, 1) := by decide +kernel
theorem dX2_weekDay_0 : decode cX2_weekDay 0 = .ok (.lload_n 0, 1) := by decide +kernel
theorem dX2_weekDay_1 : decode cX2_weekDay 1 = .ok (.ldc2_w 33, 3) := by decide +kernel
theorem dX2_weekDay_4 : decode cX2_weekDay 4 = .ok (.ladd, 1) := by decide +kernel
theorem dX2_weekDay_5 : decode cX2_weekDay 5 = .ok (.ldc2_w 68, 3) := by decide +kernel
theorem dX2_weekDay_8 : decode cX2_weekDay 8 = .ok (.lload_n 0, 1) := by decide +kernel
theorem dX2_weekDay_9 : decode cX2_weekDay 9 = .ok (.ldc2_w 33, 3) := by decide +kernel
theorem dX2_weekDay_12 : decode cX2_weekDay 12 = .ok (.ladd, 1) := by decide +kernel
theorem dX2_weekDay_13 : decode cX2_weekDay 13 = .ok (.ldc2_w 68, 3) := by decide +kernel
theorem dX2_weekDay_16 : decode cX2_weekDay 16 = .ok (.invokestatic 37, 3) := by decide +kernel
theorem dX2_weekDay_19 : decode cX2_weekDay 19 = .ok (.lmul, 1) := by decide +kernel
theorem dX2_weekDay_20 : decode cX2_weekDay 20 = .ok (.lsub, 1) := by decide +kernel
theorem dX2_weekDay_21 : decode cX2_weekDay 21 = .ok (.l2i, 1) := by decide +kernel
theorem dX2_weekDay_22 : decode cX2_weekDay 22 = .ok (.iconst 1, 1) := by decide +kernel
theorem dX2_weekDay_23 : decode cX2_weekDay 23 = .ok (.iadd, 1) := by decide +kernel
theorem dX2_weekDay_24 : decode cX2_weekDay 24 = .ok (.ireturn, 1) := by decide +kernel
theorem dX2_nanosOf_0 : decode cX2_nanosOf 0 = .ok (.iload_n 0, 1) := by decide +kernel
theorem dX2_nanosOf_1 : decode cX2_nanosOf 1 = .ok (.tableswitch 77 0 7 #[47, 49, 53, 57, 61, 65, 69, 73], 47) := by decide +kernel
theorem dX2_nanosOf_48 : decode cX2_nanosOf 48 = .ok (.lconst 1, 1) := by decide +kernel
theorem dX2_nanosOf_49 : decode cX2_nanosOf 49 = .ok (.lreturn, 1) := by decide +kernel
theorem dX2_nanosOf_50 : decode cX2_nanosOf 50 = .ok (.ldc2_w 70, 3) := by decide +kernel
theorem dX2_nanosOf_53 : decode cX2_nanosOf 53 = .ok (.lreturn, 1) := by decide +kernel
theorem dX2_nanosOf_54 : decode cX2_nanosOf 54 = .ok (.ldc2_w 72, 3) := by decide +kernel
theorem dX2_nanosOf_57 : decode cX2_nanosOf 57 = .ok (.lreturn, 1) := by decide +kernel
theorem dX2_nanosOf_58 : decode cX2_nanosOf 58 = .ok (.ldc2_w 74, 3) := by decide +kernel
theorem dX2_nanosOf_61 : decode cX2_nanosOf 61 = .ok (.lreturn, 1) := by decide +kernel
theorem dX2_nanosOf_62 : decode cX2_nanosOf 62 = .ok (.ldc2_w 76, 3) := by decide +kernel
theorem dX2_nanosOf_65 : decode cX2_nanosOf 65 = .ok (.lreturn, 1) := by decide +kernel
theorem dX2_nanosOf_66 : decode cX2_nanosOf 66 = .ok (.ldc2_w 78, 3) := by decide +kernel
theorem dX2_nanosOf_69 : decode cX2_nanosOf 69 = .ok (.lreturn, 1) := by decide +kernel
theorem dX2_nanosOf_70 : decode cX2_nanosOf 70 = .ok (.ldc2_w 80, 3) := by decide +kernel
theorem dX2_nanosOf_73 : decode cX2_nanosOf 73 = .ok (.lreturn, 1) := by decide +kernel
theorem dX2_nanosOf_74 : decode cX2_nanosOf 74 = .ok (.ldc2_w 82, 3) := by decide +kernel
theorem dX2_nanosOf_77 : decode cX2_nanosOf 77 = .ok (.lreturn, 1) := by decide +kernel
theorem dX2_nanosOf_78 : decode cX2_nanosOf 78 = .ok (.ldc2_w 84, 3) := by decide +kernel
theorem dX2_nanosOf_81 : decode cX2_nanosOf 81 = .ok (.lreturn, 1) := by decide +kernel
theorem dX2_monthsOf_0 : decode cX2_monthsOf 0 = .ok (.iload_n 0, 1) := by decide +kernel
theorem dX2_monthsOf_1 : decode cX2_monthsOf 1 = .ok (.bipush 9, 2) := by decide +kernel
theorem dX2_monthsOf_3 : decode cX2_monthsOf 3 = .ok (.if_icmp .ne 7, 3) := by decide +kernel
theorem dX2_monthsOf_6 : decode cX2_monthsOf 6 = .ok (.iconst 1, 1) := by decide +kernel
theorem dX2_monthsOf_7 : decode cX2_monthsOf 7 = .ok (.goto 40, 3) := by decide +kernel
theorem dX2_monthsOf_10 : decode cX2_monthsOf 10 = .ok (.iload_n 0, 1) := by decide +kernel
theorem dX2_monthsOf_11 : decode cX2_monthsOf 11 = .ok (.bipush 10, 2) := by decide +kernel
theorem dX2_monthsOf_13 : decode cX2_monthsOf 13 = .ok (.if_icmp .ne 8, 3) := by decide +kernel
theorem dX2_monthsOf_16 : decode cX2_monthsOf 16 = .ok (.bipush 12, 2) := by decide +kernel
theorem dX2_monthsOf_18 : decode cX2_monthsOf 18 = .ok (.goto 29, 3) := by decide +kernel
theorem dX2_monthsOf_21 : decode cX2_monthsOf 21 = .ok (.iload_n 0, 1) := by decide +kernel
theorem dX2_monthsOf_22 : decode cX2_monthsOf 22 = .ok (.bipush 11, 2) := by decide +kernel
theorem dX2_monthsOf_24 : decode cX2_monthsOf 24 = .ok (.if_icmp .ne 8, 3) := by decide +kernel
theorem dX2_monthsOf_27 : decode cX2_monthsOf 27 = .ok (.bipush 120, 2) := by decide +kernel
theorem dX2_monthsOf_29 : decode cX2_monthsOf 29 = .ok (.goto 18, 3) := by decide +kernel
theorem dX2_monthsOf_32 : decode cX2_monthsOf 32 = .ok (.iload_n 0, 1) := by decide +kernel
theorem dX2_monthsOf_33 : decode cX2_monthsOf 33 = .ok (.bipush 12, 2) := by decide +kernel
theorem dX2_monthsOf_35 : decode cX2_monthsOf 35 = .ok (.if_icmp .ne 9, 3) := by decide +kernel
theorem dX2_monthsOf_38 : decode cX2_monthsOf 38 = .ok (.sipush 1200, 3) := by decide +kernel
theorem dX2_monthsOf_41 : decode cX2_monthsOf 41 = .ok (.goto 6, 3) := by decide +kernel
theorem dX2_monthsOf_44 : decode cX2_monthsOf 44 = .ok (.sipush 12000, 3) := by decide +kernel
theorem dX2_monthsOf_47 : decode cX2_monthsOf 47 = .ok (.ireturn, 1) := by decide +kernel
theorem dX2_isFrom_0 : decode cX2_isFrom 0 = .ok (.iload_n 2, 1) := by decide +kernel
theorem dX2_isFrom_1 : decode cX2_isFrom 1 = .ok (.iload_n 0, 1) := by decide +kernel
theorem dX2_isFrom_2 : decode cX2_isFrom 2 = .ok (.if_icmp .lt 12, 3) := by decide +kernel
theorem dX2_isFrom_5 : decode cX2_isFrom 5 = .ok (.iload_n 2, 1) := by decide +kernel
theorem dX2_isFrom_6 : decode cX2_isFrom 6 = .ok (.iload_n 1, 1) := by decide +kernel
theorem dX2_isFrom_7 : decode cX2_isFrom 7 = .ok (.if_icmp .gt 7, 3) := by decide +kernel
theorem dX2_isFrom_10 : decode cX2_isFrom 10 = .ok (.iconst 1, 1) := by decide +kernel
theorem dX2_isFrom_11 : decode cX2_isFrom 11 = .ok (.goto 4, 3) := by decide +kernel
theorem dX2_isFrom_14 : decode cX2_isFrom 14 = .ok (.iconst 0, 1) := by decide +kernel
theorem dX2_isFrom_15 : decode cX2_isFrom 15 = .ok (.ireturn, 1) := by decide +kernel
theorem dX2_isNone_0 : decode cX2_isNone 0 = .ok (.iconst 0, 1) := by decide +kernel
theorem dX2_isNone_1 : decode cX2_isNone 1 = .ok (.iconst 5, 1) := by decide +kernel
theorem dX2_isNone_2 : decode cX2_isNone 2 = .ok (.iload_n 0, 1) := by decide +kernel
theorem dX2_isNone_3 : decode cX2_isNone 3 = .ok (.invokestatic 86, 3) := by decide +kernel
theorem dX2_isNone_6 : decode cX2_isNone 6 = .ok (.ifCond .ne 7, 3) := by decide +kernel
theorem dX2_isNone_9 : decode cX2_isNone 9 = .ok (.iconst 1, 1) := by decide +kernel
theorem dX2_isNone_10 : decode cX2_isNone 10 = .ok (.goto 4, 3) := by decide +kernel
theorem dX2_isNone_13 : decode cX2_isNone 13 = .ok (.iconst 0, 1) := by decide +kernel
theorem dX2_isNone_14 : decode cX2_isNone 14 = .ok (.ireturn, 1) := by decide +kernel
theorem dX2_refuses_0 : decode cX2_refuses 0 = .ok (.aload_n 0, 1) := by decide +kernel
theorem dX2_refuses_1 : decode cX2_refuses 1 = .ok (.iload_n 1, 1) := by decide +kernel
theorem dX2_refuses_2 : decode cX2_refuses 2 = .ok (.ifCond .eq 7, 3) := by decide +kernel
theorem dX2_refuses_5 : decode cX2_refuses 5 = .ok (.iconst 1, 1) := by decide +kernel
theorem dX2_refuses_6 : decode cX2_refuses 6 = .ok (.goto 12, 3) := by decide +kernel
theorem dX2_refuses_9 : decode cX2_refuses 9 = .ok (.iload_n 2, 1) := by decide +kernel
theorem dX2_refuses_10 : decode cX2_refuses 10 = .ok (.ifCond .eq 7, 3) := by decide +kernel
theorem dX2_refuses_13 : decode cX2_refuses 13 = .ok (.iconst 2, 1) := by decide +kernel
theorem dX2_refuses_14 : decode cX2_refuses 14 = .ok (.goto 4, 3) := by decide +kernel
theorem dX2_refuses_17 : decode cX2_refuses 17 = .ok (.iconst 0, 1) := by decide +kernel
theorem dX2_refuses_18 : decode cX2_refuses 18 = .ok (.putfield 23, 3) := by decide +kernel
theorem dX2_refuses_21 : decode cX2_refuses 21 = .ok (.aload_n 0, 1) := by decide +kernel
theorem dX2_refuses_22 : decode cX2_refuses 22 = .ok (.getfield 23, 3) := by decide +kernel
theorem dX2_refuses_25 : decode cX2_refuses 25 = .ok (.ifCond .le 7, 3) := by decide +kernel
theorem dX2_refuses_28 : decode cX2_refuses 28 = .ok (.iconst 1, 1) := by decide +kernel
theorem dX2_refuses_29 : decode cX2_refuses 29 = .ok (.goto 4, 3) := by decide +kernel
theorem dX2_refuses_32 : decode cX2_refuses 32 = .ok (.iconst 0, 1) := by decide +kernel
theorem dX2_refuses_33 : decode cX2_refuses 33 = .ok (.ireturn, 1) := by decide +kernel
theorem dX2_refuse_0 : decode cX2_refuse 0 = .ok (.aload_n 0, 1) := by decide +kernel
theorem dX2_refuse_1 : decode cX2_refuse 1 = .ok (.dup, 1) := by decide +kernel
theorem dX2_refuse_2 : decode cX2_refuse 2 = .ok (.getfield 90, 3) := by decide +kernel
theorem dX2_refuse_5 : decode cX2_refuse 5 = .ok (.iconst 1, 1) := by decide +kernel
theorem dX2_refuse_6 : decode cX2_refuse 6 = .ok (.iadd, 1) := by decide +kernel
theorem dX2_refuse_7 : decode cX2_refuse 7 = .ok (.putfield 90, 3) := by decide +kernel
theorem dX2_refuse_10 : decode cX2_refuse 10 = .ok (.bipush (-9), 2) := by decide +kernel
theorem dX2_refuse_12 : decode cX2_refuse 12 = .ok (.ireturn, 1) := by decide +kernel
theorem dX2_dayNow_0 : decode cX2_dayNow 0 = .ok (.aload_n 0, 1) := by decide +kernel
theorem dX2_dayNow_1 : decode cX2_dayNow 1 = .ok (.getfield 7, 3) := by decide +kernel
theorem dX2_dayNow_4 : decode cX2_dayNow 4 = .ok (.iload_n 1, 1) := by decide +kernel
theorem dX2_dayNow_5 : decode cX2_dayNow 5 = .ok (.iaload, 1) := by decide +kernel
theorem dX2_dayNow_6 : decode cX2_dayNow 6 = .ok (.aload_n 0, 1) := by decide +kernel
theorem dX2_dayNow_7 : decode cX2_dayNow 7 = .ok (.getfield 13, 3) := by decide +kernel
theorem dX2_dayNow_10 : decode cX2_dayNow 10 = .ok (.iload_n 1, 1) := by decide +kernel
theorem dX2_dayNow_11 : decode cX2_dayNow 11 = .ok (.iaload, 1) := by decide +kernel
theorem dX2_dayNow_12 : decode cX2_dayNow 12 = .ok (.aload_n 0, 1) := by decide +kernel
theorem dX2_dayNow_13 : decode cX2_dayNow 13 = .ok (.getfield 16, 3) := by decide +kernel
theorem dX2_dayNow_16 : decode cX2_dayNow 16 = .ok (.iload_n 1, 1) := by decide +kernel
theorem dX2_dayNow_17 : decode cX2_dayNow 17 = .ok (.iaload, 1) := by decide +kernel
theorem dX2_dayNow_18 : decode cX2_dayNow 18 = .ok (.invokestatic 93, 3) := by decide +kernel
theorem dX2_dayNow_21 : decode cX2_dayNow 21 = .ok (.lreturn, 1) := by decide +kernel
theorem dX2_weekDayNow_0 : decode cX2_weekDayNow 0 = .ok (.aload_n 0, 1) := by decide +kernel
theorem dX2_weekDayNow_1 : decode cX2_weekDayNow 1 = .ok (.iload_n 1, 1) := by decide +kernel
theorem dX2_weekDayNow_2 : decode cX2_weekDayNow 2 = .ok (.invokevirtual 97, 3) := by decide +kernel
theorem dX2_weekDayNow_5 : decode cX2_weekDayNow 5 = .ok (.invokestatic 101, 3) := by decide +kernel
theorem dX2_weekDayNow_8 : decode cX2_weekDayNow 8 = .ok (.ireturn, 1) := by decide +kernel
theorem dX2_become_0 : decode cX2_become 0 = .ok (.aload_n 0, 1) := by decide +kernel
theorem dX2_become_1 : decode cX2_become 1 = .ok (.getfield 7, 3) := by decide +kernel
theorem dX2_become_4 : decode cX2_become 4 = .ok (.iload_n 1, 1) := by decide +kernel
theorem dX2_become_5 : decode cX2_become 5 = .ok (.iload_n 2, 1) := by decide +kernel
theorem dX2_become_6 : decode cX2_become 6 = .ok (.iastore, 1) := by decide +kernel
theorem dX2_become_7 : decode cX2_become 7 = .ok (.aload_n 0, 1) := by decide +kernel
theorem dX2_become_8 : decode cX2_become 8 = .ok (.getfield 13, 3) := by decide +kernel
theorem dX2_become_11 : decode cX2_become 11 = .ok (.iload_n 1, 1) := by decide +kernel
theorem dX2_become_12 : decode cX2_become 12 = .ok (.iload_n 3, 1) := by decide +kernel
theorem dX2_become_13 : decode cX2_become 13 = .ok (.iastore, 1) := by decide +kernel
theorem dX2_become_14 : decode cX2_become 14 = .ok (.aload_n 0, 1) := by decide +kernel
theorem dX2_become_15 : decode cX2_become 15 = .ok (.getfield 16, 3) := by decide +kernel
theorem dX2_become_18 : decode cX2_become 18 = .ok (.iload_n 1, 1) := by decide +kernel
theorem dX2_become_19 : decode cX2_become 19 = .ok (.iload 4, 2) := by decide +kernel
theorem dX2_become_21 : decode cX2_become 21 = .ok (.iastore, 1) := by decide +kernel
theorem dX2_become_22 : decode cX2_become 22 = .ok (.aload_n 0, 1) := by decide +kernel
theorem dX2_become_23 : decode cX2_become 23 = .ok (.getfield 19, 3) := by decide +kernel
theorem dX2_become_26 : decode cX2_become 26 = .ok (.iload_n 1, 1) := by decide +kernel
theorem dX2_become_27 : decode cX2_become 27 = .ok (.lload 5, 2) := by decide +kernel
theorem dX2_become_29 : decode cX2_become 29 = .ok (.lastore, 1) := by decide +kernel
theorem dX2_become_30 : decode cX2_become 30 = .ok (.aload_n 0, 1) := by decide +kernel
theorem dX2_become_31 : decode cX2_become 31 = .ok (.dup, 1) := by decide +kernel
theorem dX2_become_32 : decode cX2_become 32 = .ok (.getfield 105, 3) := by decide +kernel
theorem dX2_become_35 : decode cX2_become 35 = .ok (.iconst 1, 1) := by decide +kernel
theorem dX2_become_36 : decode cX2_become 36 = .ok (.iadd, 1) := by decide +kernel
theorem dX2_become_37 : decode cX2_become 37 = .ok (.putfield 105, 3) := by decide +kernel
theorem dX2_become_40 : decode cX2_become 40 = .ok (.aload_n 0, 1) := by decide +kernel
theorem dX2_become_41 : decode cX2_become 41 = .ok (.iload_n 1, 1) := by decide +kernel
theorem dX2_become_42 : decode cX2_become 42 = .ok (.invokevirtual 108, 3) := by decide +kernel
theorem dX2_become_45 : decode cX2_become 45 = .ok (.ireturn, 1) := by decide +kernel
theorem dX2_becomeDay_0 : decode cX2_becomeDay 0 = .ok (.lload_n 2, 1) := by decide +kernel
theorem dX2_becomeDay_1 : decode cX2_becomeDay 1 = .ok (.sipush (-9999), 3) := by decide +kernel
theorem dX2_becomeDay_4 : decode cX2_becomeDay 4 = .ok (.iconst 1, 1) := by decide +kernel
theorem dX2_becomeDay_5 : decode cX2_becomeDay 5 = .ok (.iconst 1, 1) := by decide +kernel
theorem dX2_becomeDay_6 : decode cX2_becomeDay 6 = .ok (.invokestatic 93, 3) := by decide +kernel
theorem dX2_becomeDay_9 : decode cX2_becomeDay 9 = .ok (.lcmp, 1) := by decide +kernel
theorem dX2_becomeDay_10 : decode cX2_becomeDay 10 = .ok (.ifCond .lt 18, 3) := by decide +kernel
theorem dX2_becomeDay_13 : decode cX2_becomeDay 13 = .ok (.lload_n 2, 1) := by decide +kernel
theorem dX2_becomeDay_14 : decode cX2_becomeDay 14 = .ok (.sipush 9999, 3) := by decide +kernel
theorem dX2_becomeDay_17 : decode cX2_becomeDay 17 = .ok (.bipush 12, 2) := by decide +kernel
theorem dX2_becomeDay_19 : decode cX2_becomeDay 19 = .ok (.bipush 31, 2) := by decide +kernel
theorem dX2_becomeDay_21 : decode cX2_becomeDay 21 = .ok (.invokestatic 93, 3) := by decide +kernel
theorem dX2_becomeDay_24 : decode cX2_becomeDay 24 = .ok (.lcmp, 1) := by decide +kernel
theorem dX2_becomeDay_25 : decode cX2_becomeDay 25 = .ok (.ifCond .le 8, 3) := by decide +kernel
theorem dX2_becomeDay_28 : decode cX2_becomeDay 28 = .ok (.aload_n 0, 1) := by decide +kernel
theorem dX2_becomeDay_29 : decode cX2_becomeDay 29 = .ok (.invokevirtual 111, 3) := by decide +kernel
theorem dX2_becomeDay_32 : decode cX2_becomeDay 32 = .ok (.ireturn, 1) := by decide +kernel
theorem dX2_becomeDay_33 : decode cX2_becomeDay 33 = .ok (.lload_n 2, 1) := by decide +kernel
theorem dX2_becomeDay_34 : decode cX2_becomeDay 34 = .ok (.invokestatic 115, 3) := by decide +kernel
theorem dX2_becomeDay_37 : decode cX2_becomeDay 37 = .ok (.astore 6, 2) := by decide +kernel
theorem dX2_becomeDay_39 : decode cX2_becomeDay 39 = .ok (.aload_n 0, 1) := by decide +kernel
theorem dX2_becomeDay_40 : decode cX2_becomeDay 40 = .ok (.iload_n 1, 1) := by decide +kernel
theorem dX2_becomeDay_41 : decode cX2_becomeDay 41 = .ok (.aload 6, 2) := by decide +kernel
theorem dX2_becomeDay_43 : decode cX2_becomeDay 43 = .ok (.iconst 0, 1) := by decide +kernel
theorem dX2_becomeDay_44 : decode cX2_becomeDay 44 = .ok (.iaload, 1) := by decide +kernel
theorem dX2_becomeDay_45 : decode cX2_becomeDay 45 = .ok (.aload 6, 2) := by decide +kernel
theorem dX2_becomeDay_47 : decode cX2_becomeDay 47 = .ok (.iconst 1, 1) := by decide +kernel
theorem dX2_becomeDay_48 : decode cX2_becomeDay 48 = .ok (.iaload, 1) := by decide +kernel
theorem dX2_becomeDay_49 : decode cX2_becomeDay 49 = .ok (.aload 6, 2) := by decide +kernel
theorem dX2_becomeDay_51 : decode cX2_becomeDay 51 = .ok (.iconst 2, 1) := by decide +kernel
theorem dX2_becomeDay_52 : decode cX2_becomeDay 52 = .ok (.iaload, 1) := by decide +kernel
theorem dX2_becomeDay_53 : decode cX2_becomeDay 53 = .ok (.lload 4, 2) := by decide +kernel
theorem dX2_becomeDay_55 : decode cX2_becomeDay 55 = .ok (.invokevirtual 119, 3) := by decide +kernel
theorem dX2_becomeDay_58 : decode cX2_becomeDay 58 = .ok (.ireturn, 1) := by decide +kernel
theorem dX2_becomeMonth_0 : decode cX2_becomeMonth 0 = .ok (.lload_n 2, 1) := by decide +kernel
theorem dX2_becomeMonth_1 : decode cX2_becomeMonth 1 = .ok (.ldc2_w 123, 3) := by decide +kernel
theorem dX2_becomeMonth_4 : decode cX2_becomeMonth 4 = .ok (.lcmp, 1) := by decide +kernel
theorem dX2_becomeMonth_5 : decode cX2_becomeMonth 5 = .ok (.ifCond .lt 11, 3) := by decide +kernel
theorem dX2_becomeMonth_8 : decode cX2_becomeMonth 8 = .ok (.lload_n 2, 1) := by decide +kernel
theorem dX2_becomeMonth_9 : decode cX2_becomeMonth 9 = .ok (.ldc2_w 125, 3) := by decide +kernel
theorem dX2_becomeMonth_12 : decode cX2_becomeMonth 12 = .ok (.lcmp, 1) := by decide +kernel
theorem dX2_becomeMonth_13 : decode cX2_becomeMonth 13 = .ok (.ifCond .le 8, 3) := by decide +kernel
theorem dX2_becomeMonth_16 : decode cX2_becomeMonth 16 = .ok (.aload_n 0, 1) := by decide +kernel
theorem dX2_becomeMonth_17 : decode cX2_becomeMonth 17 = .ok (.invokevirtual 111, 3) := by decide +kernel
theorem dX2_becomeMonth_20 : decode cX2_becomeMonth 20 = .ok (.ireturn, 1) := by decide +kernel
theorem dX2_becomeMonth_21 : decode cX2_becomeMonth 21 = .ok (.aload_n 0, 1) := by decide +kernel
theorem dX2_becomeMonth_22 : decode cX2_becomeMonth 22 = .ok (.iload_n 1, 1) := by decide +kernel
theorem dX2_becomeMonth_23 : decode cX2_becomeMonth 23 = .ok (.lload_n 2, 1) := by decide +kernel
theorem dX2_becomeMonth_24 : decode cX2_becomeMonth 24 = .ok (.l2i, 1) := by decide +kernel
theorem dX2_becomeMonth_25 : decode cX2_becomeMonth 25 = .ok (.iload 4, 2) := by decide +kernel
theorem dX2_becomeMonth_27 : decode cX2_becomeMonth 27 = .ok (.aload_n 0, 1) := by decide +kernel
theorem dX2_becomeMonth_28 : decode cX2_becomeMonth 28 = .ok (.getfield 16, 3) := by decide +kernel
theorem dX2_becomeMonth_31 : decode cX2_becomeMonth 31 = .ok (.iload_n 1, 1) := by decide +kernel
theorem dX2_becomeMonth_32 : decode cX2_becomeMonth 32 = .ok (.iaload, 1) := by decide +kernel
theorem dX2_becomeMonth_33 : decode cX2_becomeMonth 33 = .ok (.lload_n 2, 1) := by decide +kernel
theorem dX2_becomeMonth_34 : decode cX2_becomeMonth 34 = .ok (.l2i, 1) := by decide +kernel
theorem dX2_becomeMonth_35 : decode cX2_becomeMonth 35 = .ok (.iload 4, 2) := by decide +kernel
theorem dX2_becomeMonth_37 : decode cX2_becomeMonth 37 = .ok (.invokestatic 49, 3) := by decide +kernel
theorem dX2_becomeMonth_40 : decode cX2_becomeMonth 40 = .ok (.invokestatic 127, 3) := by decide +kernel
theorem dX2_becomeMonth_43 : decode cX2_becomeMonth 43 = .ok (.aload_n 0, 1) := by decide +kernel
theorem dX2_becomeMonth_44 : decode cX2_becomeMonth 44 = .ok (.getfield 19, 3) := by decide +kernel
theorem dX2_becomeMonth_47 : decode cX2_becomeMonth 47 = .ok (.iload_n 1, 1) := by decide +kernel
theorem dX2_becomeMonth_48 : decode cX2_becomeMonth 48 = .ok (.laload, 1) := by decide +kernel
theorem dX2_becomeMonth_49 : decode cX2_becomeMonth 49 = .ok (.invokevirtual 119, 3) := by decide +kernel
theorem dX2_becomeMonth_52 : decode cX2_becomeMonth 52 = .ok (.ireturn, 1) := by decide +kernel
theorem dX2_onMonths_0 : decode cX2_onMonths 0 = .ok (.ldc2_w 132, 3) := by decide +kernel
theorem dX2_onMonths_3 : decode cX2_onMonths 3 = .ok (.aload_n 0, 1) := by decide +kernel
theorem dX2_onMonths_4 : decode cX2_onMonths 4 = .ok (.getfield 7, 3) := by decide +kernel
theorem dX2_onMonths_7 : decode cX2_onMonths 7 = .ok (.iload_n 1, 1) := by decide +kernel
theorem dX2_onMonths_8 : decode cX2_onMonths 8 = .ok (.iaload, 1) := by decide +kernel
theorem dX2_onMonths_9 : decode cX2_onMonths 9 = .ok (.i2l, 1) := by decide +kernel
theorem dX2_onMonths_10 : decode cX2_onMonths 10 = .ok (.lmul, 1) := by decide +kernel
theorem dX2_onMonths_11 : decode cX2_onMonths 11 = .ok (.aload_n 0, 1) := by decide +kernel
theorem dX2_onMonths_12 : decode cX2_onMonths 12 = .ok (.getfield 13, 3) := by decide +kernel
theorem dX2_onMonths_15 : decode cX2_onMonths 15 = .ok (.iload_n 1, 1) := by decide +kernel
theorem dX2_onMonths_16 : decode cX2_onMonths 16 = .ok (.iaload, 1) := by decide +kernel
theorem dX2_onMonths_17 : decode cX2_onMonths 17 = .ok (.i2l, 1) := by decide +kernel
theorem dX2_onMonths_18 : decode cX2_onMonths 18 = .ok (.ladd, 1) := by decide +kernel
theorem dX2_onMonths_19 : decode cX2_onMonths 19 = .ok (.lconst 1, 1) := by decide +kernel
theorem dX2_onMonths_20 : decode cX2_onMonths 20 = .ok (.lsub, 1) := by decide +kernel
theorem dX2_onMonths_21 : decode cX2_onMonths 21 = .ok (.lload_n 2, 1) := by decide +kernel
theorem dX2_onMonths_22 : decode cX2_onMonths 22 = .ok (.ladd, 1) := by decide +kernel
theorem dX2_onMonths_23 : decode cX2_onMonths 23 = .ok (.lstore 4, 2) := by decide +kernel
theorem dX2_onMonths_25 : decode cX2_onMonths 25 = .ok (.lload 4, 2) := by decide +kernel
theorem dX2_onMonths_27 : decode cX2_onMonths 27 = .ok (.ldc2_w 132, 3) := by decide +kernel
theorem dX2_onMonths_30 : decode cX2_onMonths 30 = .ok (.invokestatic 37, 3) := by decide +kernel
theorem dX2_onMonths_33 : decode cX2_onMonths 33 = .ok (.lstore 6, 2) := by decide +kernel
theorem dX2_onMonths_35 : decode cX2_onMonths 35 = .ok (.aload_n 0, 1) := by decide +kernel
theorem dX2_onMonths_36 : decode cX2_onMonths 36 = .ok (.iload_n 1, 1) := by decide +kernel
theorem dX2_onMonths_37 : decode cX2_onMonths 37 = .ok (.lload 6, 2) := by decide +kernel
theorem dX2_onMonths_39 : decode cX2_onMonths 39 = .ok (.lload 4, 2) := by decide +kernel
theorem dX2_onMonths_41 : decode cX2_onMonths 41 = .ok (.ldc2_w 132, 3) := by decide +kernel
theorem dX2_onMonths_44 : decode cX2_onMonths 44 = .ok (.lload 6, 2) := by decide +kernel
theorem dX2_onMonths_46 : decode cX2_onMonths 46 = .ok (.lmul, 1) := by decide +kernel
theorem dX2_onMonths_47 : decode cX2_onMonths 47 = .ok (.lsub, 1) := by decide +kernel
theorem dX2_onMonths_48 : decode cX2_onMonths 48 = .ok (.l2i, 1) := by decide +kernel
theorem dX2_onMonths_49 : decode cX2_onMonths 49 = .ok (.iconst 1, 1) := by decide +kernel
theorem dX2_onMonths_50 : decode cX2_onMonths 50 = .ok (.iadd, 1) := by decide +kernel
theorem dX2_onMonths_51 : decode cX2_onMonths 51 = .ok (.invokevirtual 134, 3) := by decide +kernel
theorem dX2_onMonths_54 : decode cX2_onMonths 54 = .ok (.ireturn, 1) := by decide +kernel
theorem dX2_onLine_0 : decode cX2_onLine 0 = .ok (.ldc2_w 82, 3) := by decide +kernel
theorem dX2_onLine_3 : decode cX2_onLine 3 = .ok (.lload 4, 2) := by decide +kernel
theorem dX2_onLine_5 : decode cX2_onLine 5 = .ok (.ldiv, 1) := by decide +kernel
theorem dX2_onLine_6 : decode cX2_onLine 6 = .ok (.lstore 6, 2) := by decide +kernel
theorem dX2_onLine_8 : decode cX2_onLine 8 = .ok (.lload_n 2, 1) := by decide +kernel
theorem dX2_onLine_9 : decode cX2_onLine 9 = .ok (.lload 6, 2) := by decide +kernel
theorem dX2_onLine_11 : decode cX2_onLine 11 = .ok (.invokestatic 37, 3) := by decide +kernel
theorem dX2_onLine_14 : decode cX2_onLine 14 = .ok (.lstore 8, 2) := by decide +kernel
theorem dX2_onLine_16 : decode cX2_onLine 16 = .ok (.aload_n 0, 1) := by decide +kernel
theorem dX2_onLine_17 : decode cX2_onLine 17 = .ok (.getfield 19, 3) := by decide +kernel
theorem dX2_onLine_20 : decode cX2_onLine 20 = .ok (.iload_n 1, 1) := by decide +kernel
theorem dX2_onLine_21 : decode cX2_onLine 21 = .ok (.laload, 1) := by decide +kernel
theorem dX2_onLine_22 : decode cX2_onLine 22 = .ok (.lload_n 2, 1) := by decide +kernel
theorem dX2_onLine_23 : decode cX2_onLine 23 = .ok (.lload 8, 2) := by decide +kernel
theorem dX2_onLine_25 : decode cX2_onLine 25 = .ok (.lload 6, 2) := by decide +kernel
theorem dX2_onLine_27 : decode cX2_onLine 27 = .ok (.lmul, 1) := by decide +kernel
theorem dX2_onLine_28 : decode cX2_onLine 28 = .ok (.lsub, 1) := by decide +kernel
theorem dX2_onLine_29 : decode cX2_onLine 29 = .ok (.lload 4, 2) := by decide +kernel
theorem dX2_onLine_31 : decode cX2_onLine 31 = .ok (.lmul, 1) := by decide +kernel
theorem dX2_onLine_32 : decode cX2_onLine 32 = .ok (.ladd, 1) := by decide +kernel
theorem dX2_onLine_33 : decode cX2_onLine 33 = .ok (.lstore 10, 2) := by decide +kernel
theorem dX2_onLine_35 : decode cX2_onLine 35 = .ok (.aload_n 0, 1) := by decide +kernel
theorem dX2_onLine_36 : decode cX2_onLine 36 = .ok (.iload_n 1, 1) := by decide +kernel
theorem dX2_onLine_37 : decode cX2_onLine 37 = .ok (.aload_n 0, 1) := by decide +kernel
theorem dX2_onLine_38 : decode cX2_onLine 38 = .ok (.iload_n 1, 1) := by decide +kernel
theorem dX2_onLine_39 : decode cX2_onLine 39 = .ok (.invokevirtual 97, 3) := by decide +kernel
theorem dX2_onLine_42 : decode cX2_onLine 42 = .ok (.lload 8, 2) := by decide +kernel
theorem dX2_onLine_44 : decode cX2_onLine 44 = .ok (.ladd, 1) := by decide +kernel
theorem dX2_onLine_45 : decode cX2_onLine 45 = .ok (.lload 10, 2) := by decide +kernel
theorem dX2_onLine_47 : decode cX2_onLine 47 = .ok (.ldc2_w 82, 3) := by decide +kernel
theorem dX2_onLine_50 : decode cX2_onLine 50 = .ok (.ldiv, 1) := by decide +kernel
theorem dX2_onLine_51 : decode cX2_onLine 51 = .ok (.ladd, 1) := by decide +kernel
theorem dX2_onLine_52 : decode cX2_onLine 52 = .ok (.lload 10, 2) := by decide +kernel
theorem dX2_onLine_54 : decode cX2_onLine 54 = .ok (.ldc2_w 82, 3) := by decide +kernel
theorem dX2_onLine_57 : decode cX2_onLine 57 = .ok (.lrem, 1) := by decide +kernel
theorem dX2_onLine_58 : decode cX2_onLine 58 = .ok (.invokevirtual 138, 3) := by decide +kernel
theorem dX2_onLine_61 : decode cX2_onLine 61 = .ok (.ireturn, 1) := by decide +kernel
theorem dX2_hand_0 : decode cX2_hand 0 = .ok (.aload_n 0, 1) := by decide +kernel
theorem dX2_hand_1 : decode cX2_hand 1 = .ok (.iconst 0, 1) := by decide +kernel
theorem dX2_hand_2 : decode cX2_hand 2 = .ok (.bipush 23, 2) := by decide +kernel
theorem dX2_hand_4 : decode cX2_hand 4 = .ok (.iload_n 1, 1) := by decide +kernel
theorem dX2_hand_5 : decode cX2_hand 5 = .ok (.invokestatic 86, 3) := by decide +kernel
theorem dX2_hand_8 : decode cX2_hand 8 = .ok (.ifCond .eq 38, 3) := by decide +kernel
theorem dX2_hand_11 : decode cX2_hand 11 = .ok (.iconst 0, 1) := by decide +kernel
theorem dX2_hand_12 : decode cX2_hand 12 = .ok (.bipush 59, 2) := by decide +kernel
theorem dX2_hand_14 : decode cX2_hand 14 = .ok (.iload_n 2, 1) := by decide +kernel
theorem dX2_hand_15 : decode cX2_hand 15 = .ok (.invokestatic 86, 3) := by decide +kernel
theorem dX2_hand_18 : decode cX2_hand 18 = .ok (.ifCond .eq 28, 3) := by decide +kernel
theorem dX2_hand_21 : decode cX2_hand 21 = .ok (.iconst 0, 1) := by decide +kernel
theorem dX2_hand_22 : decode cX2_hand 22 = .ok (.bipush 59, 2) := by decide +kernel
theorem dX2_hand_24 : decode cX2_hand 24 = .ok (.iload_n 3, 1) := by decide +kernel
theorem dX2_hand_25 : decode cX2_hand 25 = .ok (.invokestatic 86, 3) := by decide +kernel
theorem dX2_hand_28 : decode cX2_hand 28 = .ok (.ifCond .eq 18, 3) := by decide +kernel
theorem dX2_hand_31 : decode cX2_hand 31 = .ok (.iconst 0, 1) := by decide +kernel
theorem dX2_hand_32 : decode cX2_hand 32 = .ok (.ldc 142, 2) := by decide +kernel
theorem dX2_hand_34 : decode cX2_hand 34 = .ok (.iload 4, 2) := by decide +kernel
theorem dX2_hand_36 : decode cX2_hand 36 = .ok (.invokestatic 86, 3) := by decide +kernel
theorem dX2_hand_39 : decode cX2_hand 39 = .ok (.ifCond .eq 7, 3) := by decide +kernel
theorem dX2_hand_42 : decode cX2_hand 42 = .ok (.iconst 0, 1) := by decide +kernel
theorem dX2_hand_43 : decode cX2_hand 43 = .ok (.goto 4, 3) := by decide +kernel
theorem dX2_hand_46 : decode cX2_hand 46 = .ok (.iconst 1, 1) := by decide +kernel
theorem dX2_hand_47 : decode cX2_hand 47 = .ok (.putfield 23, 3) := by decide +kernel
theorem dX2_hand_50 : decode cX2_hand 50 = .ok (.aload_n 0, 1) := by decide +kernel
theorem dX2_hand_51 : decode cX2_hand 51 = .ok (.getfield 23, 3) := by decide +kernel
theorem dX2_hand_54 : decode cX2_hand 54 = .ok (.ifCond .le 5, 3) := by decide +kernel
theorem dX2_hand_57 : decode cX2_hand 57 = .ok (.iconst 0, 1) := by decide +kernel
theorem dX2_hand_58 : decode cX2_hand 58 = .ok (.ireturn, 1) := by decide +kernel
theorem dX2_hand_59 : decode cX2_hand 59 = .ok (.aload_n 0, 1) := by decide +kernel
theorem dX2_hand_60 : decode cX2_hand 60 = .ok (.getfield 143, 3) := by decide +kernel
theorem dX2_hand_63 : decode cX2_hand 63 = .ok (.istore 5, 2) := by decide +kernel
theorem dX2_hand_65 : decode cX2_hand 65 = .ok (.aload_n 0, 1) := by decide +kernel
theorem dX2_hand_66 : decode cX2_hand 66 = .ok (.iload_n 1, 1) := by decide +kernel
theorem dX2_hand_67 : decode cX2_hand 67 = .ok (.putfield 143, 3) := by decide +kernel
theorem dX2_hand_70 : decode cX2_hand 70 = .ok (.aload_n 0, 1) := by decide +kernel
theorem dX2_hand_71 : decode cX2_hand 71 = .ok (.iload_n 2, 1) := by decide +kernel
theorem dX2_hand_72 : decode cX2_hand 72 = .ok (.putfield 146, 3) := by decide +kernel
theorem dX2_hand_75 : decode cX2_hand 75 = .ok (.aload_n 0, 1) := by decide +kernel
theorem dX2_hand_76 : decode cX2_hand 76 = .ok (.iload_n 3, 1) := by decide +kernel
theorem dX2_hand_77 : decode cX2_hand 77 = .ok (.putfield 149, 3) := by decide +kernel
theorem dX2_hand_80 : decode cX2_hand 80 = .ok (.aload_n 0, 1) := by decide +kernel
theorem dX2_hand_81 : decode cX2_hand 81 = .ok (.iload 4, 2) := by decide +kernel
theorem dX2_hand_83 : decode cX2_hand 83 = .ok (.putfield 152, 3) := by decide +kernel
theorem dX2_hand_86 : decode cX2_hand 86 = .ok (.iload 5, 2) := by decide +kernel
theorem dX2_hand_88 : decode cX2_hand 88 = .ok (.ireturn, 1) := by decide +kernel
theorem dX2_handTime_0 : decode cX2_handTime 0 = .ok (.ldc2_w 155, 3) := by decide +kernel
theorem dX2_handTime_3 : decode cX2_handTime 3 = .ok (.bipush 60, 2) := by decide +kernel
theorem dX2_handTime_5 : decode cX2_handTime 5 = .ok (.aload_n 0, 1) := by decide +kernel
theorem dX2_handTime_6 : decode cX2_handTime 6 = .ok (.getfield 143, 3) := by decide +kernel
theorem dX2_handTime_9 : decode cX2_handTime 9 = .ok (.imul, 1) := by decide +kernel
theorem dX2_handTime_10 : decode cX2_handTime 10 = .ok (.aload_n 0, 1) := by decide +kernel
theorem dX2_handTime_11 : decode cX2_handTime 11 = .ok (.getfield 146, 3) := by decide +kernel
theorem dX2_handTime_14 : decode cX2_handTime 14 = .ok (.iadd, 1) := by decide +kernel
theorem dX2_handTime_15 : decode cX2_handTime 15 = .ok (.i2l, 1) := by decide +kernel
theorem dX2_handTime_16 : decode cX2_handTime 16 = .ok (.lmul, 1) := by decide +kernel
theorem dX2_handTime_17 : decode cX2_handTime 17 = .ok (.ldc2_w 74, 3) := by decide +kernel
theorem dX2_handTime_20 : decode cX2_handTime 20 = .ok (.lmul, 1) := by decide +kernel
theorem dX2_handTime_21 : decode cX2_handTime 21 = .ok (.lstore_n 2, 1) := by decide +kernel
theorem dX2_handTime_22 : decode cX2_handTime 22 = .ok (.iload_n 1, 1) := by decide +kernel
theorem dX2_handTime_23 : decode cX2_handTime 23 = .ok (.ifCond .le 15, 3) := by decide +kernel
theorem dX2_handTime_26 : decode cX2_handTime 26 = .ok (.lload_n 2, 1) := by decide +kernel
theorem dX2_handTime_27 : decode cX2_handTime 27 = .ok (.aload_n 0, 1) := by decide +kernel
theorem dX2_handTime_28 : decode cX2_handTime 28 = .ok (.getfield 149, 3) := by decide +kernel
theorem dX2_handTime_31 : decode cX2_handTime 31 = .ok (.i2l, 1) := by decide +kernel
theorem dX2_handTime_32 : decode cX2_handTime 32 = .ok (.ldc2_w 74, 3) := by decide +kernel
theorem dX2_handTime_35 : decode cX2_handTime 35 = .ok (.lmul, 1) := by decide +kernel
theorem dX2_handTime_36 : decode cX2_handTime 36 = .ok (.ladd, 1) := by decide +kernel
theorem dX2_handTime_37 : decode cX2_handTime 37 = .ok (.lstore_n 2, 1) := by decide +kernel
theorem dX2_handTime_38 : decode cX2_handTime 38 = .ok (.iload_n 1, 1) := by decide +kernel
theorem dX2_handTime_39 : decode cX2_handTime 39 = .ok (.iconst 1, 1) := by decide +kernel
theorem dX2_handTime_40 : decode cX2_handTime 40 = .ok (.if_icmp .le 13, 3) := by decide +kernel
theorem dX2_handTime_43 : decode cX2_handTime 43 = .ok (.lload_n 2, 1) := by decide +kernel
theorem dX2_handTime_44 : decode cX2_handTime 44 = .ok (.aload_n 0, 1) := by decide +kernel
theorem dX2_handTime_45 : decode cX2_handTime 45 = .ok (.getfield 152, 3) := by decide +kernel
theorem dX2_handTime_48 : decode cX2_handTime 48 = .ok (.i2l, 1) := by decide +kernel
theorem dX2_handTime_49 : decode cX2_handTime 49 = .ok (.ladd, 1) := by decide +kernel
theorem dX2_handTime_50 : decode cX2_handTime 50 = .ok (.goto 4, 3) := by decide +kernel
theorem dX2_handTime_53 : decode cX2_handTime 53 = .ok (.lload_n 2, 1) := by decide +kernel
theorem dX2_handTime_54 : decode cX2_handTime 54 = .ok (.lreturn, 1) := by decide +kernel
theorem dX2_of_0 : decode cX2_of 0 = .ok (.aload_n 0, 1) := by decide +kernel
theorem dX2_of_1 : decode cX2_of 1 = .ok (.iload_n 1, 1) := by decide +kernel
theorem dX2_of_2 : decode cX2_of 2 = .ok (.invokestatic 157, 3) := by decide +kernel
theorem dX2_of_5 : decode cX2_of 5 = .ok (.sipush (-9999), 3) := by decide +kernel
theorem dX2_of_8 : decode cX2_of 8 = .ok (.sipush 9999, 3) := by decide +kernel
theorem dX2_of_11 : decode cX2_of 11 = .ok (.iload_n 2, 1) := by decide +kernel
theorem dX2_of_12 : decode cX2_of 12 = .ok (.invokestatic 86, 3) := by decide +kernel
theorem dX2_of_15 : decode cX2_of 15 = .ok (.ifCond .eq 35, 3) := by decide +kernel
theorem dX2_of_18 : decode cX2_of 18 = .ok (.iconst 1, 1) := by decide +kernel
theorem dX2_of_19 : decode cX2_of 19 = .ok (.bipush 12, 2) := by decide +kernel
theorem dX2_of_21 : decode cX2_of 21 = .ok (.iload_n 3, 1) := by decide +kernel
theorem dX2_of_22 : decode cX2_of 22 = .ok (.invokestatic 86, 3) := by decide +kernel
theorem dX2_of_25 : decode cX2_of 25 = .ok (.ifCond .eq 25, 3) := by decide +kernel
theorem dX2_of_28 : decode cX2_of 28 = .ok (.iconst 1, 1) := by decide +kernel
theorem dX2_of_29 : decode cX2_of 29 = .ok (.bipush 31, 2) := by decide +kernel
theorem dX2_of_31 : decode cX2_of 31 = .ok (.iload 4, 2) := by decide +kernel
theorem dX2_of_33 : decode cX2_of 33 = .ok (.invokestatic 86, 3) := by decide +kernel
theorem dX2_of_36 : decode cX2_of 36 = .ok (.ifCond .eq 14, 3) := by decide +kernel
theorem dX2_of_39 : decode cX2_of 39 = .ok (.iconst 0, 1) := by decide +kernel
theorem dX2_of_40 : decode cX2_of 40 = .ok (.bipush 6, 2) := by decide +kernel
theorem dX2_of_42 : decode cX2_of 42 = .ok (.iload 5, 2) := by decide +kernel
theorem dX2_of_44 : decode cX2_of 44 = .ok (.invokestatic 86, 3) := by decide +kernel
theorem dX2_of_47 : decode cX2_of 47 = .ok (.ifCond .ne 7, 3) := by decide +kernel
theorem dX2_of_50 : decode cX2_of 50 = .ok (.iconst 1, 1) := by decide +kernel
theorem dX2_of_51 : decode cX2_of 51 = .ok (.goto 4, 3) := by decide +kernel
theorem dX2_of_54 : decode cX2_of 54 = .ok (.iconst 0, 1) := by decide +kernel
theorem dX2_of_55 : decode cX2_of 55 = .ok (.invokevirtual 160, 3) := by decide +kernel
theorem dX2_of_58 : decode cX2_of 58 = .ok (.ifCond .eq 5, 3) := by decide +kernel
theorem dX2_of_61 : decode cX2_of 61 = .ok (.iconst 0, 1) := by decide +kernel
theorem dX2_of_62 : decode cX2_of 62 = .ok (.ireturn, 1) := by decide +kernel
theorem dX2_of_63 : decode cX2_of 63 = .ok (.iload 4, 2) := by decide +kernel
theorem dX2_of_65 : decode cX2_of 65 = .ok (.iload_n 2, 1) := by decide +kernel
theorem dX2_of_66 : decode cX2_of 66 = .ok (.iload_n 3, 1) := by decide +kernel
theorem dX2_of_67 : decode cX2_of 67 = .ok (.invokestatic 49, 3) := by decide +kernel
theorem dX2_of_70 : decode cX2_of 70 = .ok (.if_icmp .le 8, 3) := by decide +kernel
theorem dX2_of_73 : decode cX2_of 73 = .ok (.aload_n 0, 1) := by decide +kernel
theorem dX2_of_74 : decode cX2_of 74 = .ok (.invokevirtual 111, 3) := by decide +kernel
theorem dX2_of_77 : decode cX2_of 77 = .ok (.ireturn, 1) := by decide +kernel
theorem dX2_of_78 : decode cX2_of 78 = .ok (.aload_n 0, 1) := by decide +kernel
theorem dX2_of_79 : decode cX2_of 79 = .ok (.iload_n 1, 1) := by decide +kernel
theorem dX2_of_80 : decode cX2_of 80 = .ok (.iload_n 2, 1) := by decide +kernel
theorem dX2_of_81 : decode cX2_of 81 = .ok (.iload_n 3, 1) := by decide +kernel
theorem dX2_of_82 : decode cX2_of 82 = .ok (.iload 4, 2) := by decide +kernel
theorem dX2_of_84 : decode cX2_of 84 = .ok (.aload_n 0, 1) := by decide +kernel
theorem dX2_of_85 : decode cX2_of 85 = .ok (.iload 5, 2) := by decide +kernel
theorem dX2_of_87 : decode cX2_of 87 = .ok (.bipush 6, 2) := by decide +kernel
theorem dX2_of_89 : decode cX2_of 89 = .ok (.if_icmp .ne 7, 3) := by decide +kernel
theorem dX2_of_92 : decode cX2_of 92 = .ok (.iconst 2, 1) := by decide +kernel
theorem dX2_of_93 : decode cX2_of 93 = .ok (.goto 7, 3) := by decide +kernel
theorem dX2_of_96 : decode cX2_of 96 = .ok (.iload 5, 2) := by decide +kernel
theorem dX2_of_98 : decode cX2_of 98 = .ok (.iconst 3, 1) := by decide +kernel
theorem dX2_of_99 : decode cX2_of 99 = .ok (.irem, 1) := by decide +kernel
theorem dX2_of_100 : decode cX2_of 100 = .ok (.invokevirtual 164, 3) := by decide +kernel
theorem dX2_of_103 : decode cX2_of 103 = .ok (.invokevirtual 119, 3) := by decide +kernel
theorem dX2_of_106 : decode cX2_of 106 = .ok (.ireturn, 1) := by decide +kernel
theorem dX2_ofDay_0 : decode cX2_ofDay 0 = .ok (.aload_n 0, 1) := by decide +kernel
theorem dX2_ofDay_1 : decode cX2_ofDay 1 = .ok (.iload_n 1, 1) := by decide +kernel
theorem dX2_ofDay_2 : decode cX2_ofDay 2 = .ok (.invokestatic 157, 3) := by decide +kernel
theorem dX2_ofDay_5 : decode cX2_ofDay 5 = .ok (.ldc 167, 2) := by decide +kernel
theorem dX2_ofDay_7 : decode cX2_ofDay 7 = .ok (.ldc 168, 2) := by decide +kernel
theorem dX2_ofDay_9 : decode cX2_ofDay 9 = .ok (.iload_n 2, 1) := by decide +kernel
theorem dX2_ofDay_10 : decode cX2_ofDay 10 = .ok (.invokestatic 86, 3) := by decide +kernel
theorem dX2_ofDay_13 : decode cX2_ofDay 13 = .ok (.ifCond .ne 7, 3) := by decide +kernel
theorem dX2_ofDay_16 : decode cX2_ofDay 16 = .ok (.iconst 1, 1) := by decide +kernel
theorem dX2_ofDay_17 : decode cX2_ofDay 17 = .ok (.goto 4, 3) := by decide +kernel
theorem dX2_ofDay_20 : decode cX2_ofDay 20 = .ok (.iconst 0, 1) := by decide +kernel
theorem dX2_ofDay_21 : decode cX2_ofDay 21 = .ok (.invokevirtual 160, 3) := by decide +kernel
theorem dX2_ofDay_24 : decode cX2_ofDay 24 = .ok (.ifCond .eq 5, 3) := by decide +kernel
theorem dX2_ofDay_27 : decode cX2_ofDay 27 = .ok (.iconst 0, 1) := by decide +kernel
theorem dX2_ofDay_28 : decode cX2_ofDay 28 = .ok (.ireturn, 1) := by decide +kernel
theorem dX2_ofDay_29 : decode cX2_ofDay 29 = .ok (.aload_n 0, 1) := by decide +kernel
theorem dX2_ofDay_30 : decode cX2_ofDay 30 = .ok (.iload_n 1, 1) := by decide +kernel
theorem dX2_ofDay_31 : decode cX2_ofDay 31 = .ok (.iload_n 2, 1) := by decide +kernel
theorem dX2_ofDay_32 : decode cX2_ofDay 32 = .ok (.i2l, 1) := by decide +kernel
theorem dX2_ofDay_33 : decode cX2_ofDay 33 = .ok (.aload_n 0, 1) := by decide +kernel
theorem dX2_ofDay_34 : decode cX2_ofDay 34 = .ok (.iconst 2, 1) := by decide +kernel
theorem dX2_ofDay_35 : decode cX2_ofDay 35 = .ok (.invokevirtual 164, 3) := by decide +kernel
theorem dX2_ofDay_38 : decode cX2_ofDay 38 = .ok (.invokevirtual 138, 3) := by decide +kernel
theorem dX2_ofDay_41 : decode cX2_ofDay 41 = .ok (.ireturn, 1) := by decide +kernel
theorem dX2_copy_0 : decode cX2_copy 0 = .ok (.aload_n 0, 1) := by decide +kernel
theorem dX2_copy_1 : decode cX2_copy 1 = .ok (.iload_n 1, 1) := by decide +kernel
theorem dX2_copy_2 : decode cX2_copy 2 = .ok (.invokestatic 157, 3) := by decide +kernel
theorem dX2_copy_5 : decode cX2_copy 5 = .ok (.ifCond .ne 10, 3) := by decide +kernel
theorem dX2_copy_8 : decode cX2_copy 8 = .ok (.iload_n 2, 1) := by decide +kernel
theorem dX2_copy_9 : decode cX2_copy 9 = .ok (.invokestatic 157, 3) := by decide +kernel
theorem dX2_copy_12 : decode cX2_copy 12 = .ok (.ifCond .eq 7, 3) := by decide +kernel
theorem dX2_copy_15 : decode cX2_copy 15 = .ok (.iconst 1, 1) := by decide +kernel
theorem dX2_copy_16 : decode cX2_copy 16 = .ok (.goto 4, 3) := by decide +kernel
theorem dX2_copy_19 : decode cX2_copy 19 = .ok (.iconst 0, 1) := by decide +kernel
theorem dX2_copy_20 : decode cX2_copy 20 = .ok (.iconst 0, 1) := by decide +kernel
theorem dX2_copy_21 : decode cX2_copy 21 = .ok (.invokevirtual 160, 3) := by decide +kernel
theorem dX2_copy_24 : decode cX2_copy 24 = .ok (.ifCond .eq 5, 3) := by decide +kernel
theorem dX2_copy_27 : decode cX2_copy 27 = .ok (.iconst 0, 1) := by decide +kernel
theorem dX2_copy_28 : decode cX2_copy 28 = .ok (.ireturn, 1) := by decide +kernel
theorem dX2_copy_29 : decode cX2_copy 29 = .ok (.aload_n 0, 1) := by decide +kernel
theorem dX2_copy_30 : decode cX2_copy 30 = .ok (.iload_n 1, 1) := by decide +kernel
theorem dX2_copy_31 : decode cX2_copy 31 = .ok (.aload_n 0, 1) := by decide +kernel
theorem dX2_copy_32 : decode cX2_copy 32 = .ok (.getfield 7, 3) := by decide +kernel
theorem dX2_copy_35 : decode cX2_copy 35 = .ok (.iload_n 2, 1) := by decide +kernel
theorem dX2_copy_36 : decode cX2_copy 36 = .ok (.iaload, 1) := by decide +kernel
theorem dX2_copy_37 : decode cX2_copy 37 = .ok (.aload_n 0, 1) := by decide +kernel
theorem dX2_copy_38 : decode cX2_copy 38 = .ok (.getfield 13, 3) := by decide +kernel
theorem dX2_copy_41 : decode cX2_copy 41 = .ok (.iload_n 2, 1) := by decide +kernel
theorem dX2_copy_42 : decode cX2_copy 42 = .ok (.iaload, 1) := by decide +kernel
theorem dX2_copy_43 : decode cX2_copy 43 = .ok (.aload_n 0, 1) := by decide +kernel
theorem dX2_copy_44 : decode cX2_copy 44 = .ok (.getfield 16, 3) := by decide +kernel
theorem dX2_copy_47 : decode cX2_copy 47 = .ok (.iload_n 2, 1) := by decide +kernel
theorem dX2_copy_48 : decode cX2_copy 48 = .ok (.iaload, 1) := by decide +kernel
theorem dX2_copy_49 : decode cX2_copy 49 = .ok (.aload_n 0, 1) := by decide +kernel
theorem dX2_copy_50 : decode cX2_copy 50 = .ok (.getfield 19, 3) := by decide +kernel
theorem dX2_copy_53 : decode cX2_copy 53 = .ok (.iload_n 2, 1) := by decide +kernel
theorem dX2_copy_54 : decode cX2_copy 54 = .ok (.laload, 1) := by decide +kernel
theorem dX2_copy_55 : decode cX2_copy 55 = .ok (.invokevirtual 119, 3) := by decide +kernel
theorem dX2_copy_58 : decode cX2_copy 58 = .ok (.ireturn, 1) := by decide +kernel
theorem dX2_takeDate_0 : decode cX2_takeDate 0 = .ok (.aload_n 0, 1) := by decide +kernel
theorem dX2_takeDate_1 : decode cX2_takeDate 1 = .ok (.iload_n 1, 1) := by decide +kernel
theorem dX2_takeDate_2 : decode cX2_takeDate 2 = .ok (.invokestatic 157, 3) := by decide +kernel
theorem dX2_takeDate_5 : decode cX2_takeDate 5 = .ok (.ifCond .ne 10, 3) := by decide +kernel
theorem dX2_takeDate_8 : decode cX2_takeDate 8 = .ok (.iload_n 2, 1) := by decide +kernel
theorem dX2_takeDate_9 : decode cX2_takeDate 9 = .ok (.invokestatic 157, 3) := by decide +kernel
theorem dX2_takeDate_12 : decode cX2_takeDate 12 = .ok (.ifCond .eq 7, 3) := by decide +kernel
theorem dX2_takeDate_15 : decode cX2_takeDate 15 = .ok (.iconst 1, 1) := by decide +kernel
theorem dX2_takeDate_16 : decode cX2_takeDate 16 = .ok (.goto 4, 3) := by decide +kernel
theorem dX2_takeDate_19 : decode cX2_takeDate 19 = .ok (.iconst 0, 1) := by decide +kernel
theorem dX2_takeDate_20 : decode cX2_takeDate 20 = .ok (.iconst 0, 1) := by decide +kernel
theorem dX2_takeDate_21 : decode cX2_takeDate 21 = .ok (.invokevirtual 160, 3) := by decide +kernel
theorem dX2_takeDate_24 : decode cX2_takeDate 24 = .ok (.ifCond .eq 5, 3) := by decide +kernel
theorem dX2_takeDate_27 : decode cX2_takeDate 27 = .ok (.iconst 0, 1) := by decide +kernel
theorem dX2_takeDate_28 : decode cX2_takeDate 28 = .ok (.ireturn, 1) := by decide +kernel
theorem dX2_takeDate_29 : decode cX2_takeDate 29 = .ok (.aload_n 0, 1) := by decide +kernel
theorem dX2_takeDate_30 : decode cX2_takeDate 30 = .ok (.iload_n 1, 1) := by decide +kernel
theorem dX2_takeDate_31 : decode cX2_takeDate 31 = .ok (.aload_n 0, 1) := by decide +kernel
theorem dX2_takeDate_32 : decode cX2_takeDate 32 = .ok (.getfield 7, 3) := by decide +kernel
theorem dX2_takeDate_35 : decode cX2_takeDate 35 = .ok (.iload_n 2, 1) := by decide +kernel
theorem dX2_takeDate_36 : decode cX2_takeDate 36 = .ok (.iaload, 1) := by decide +kernel
theorem dX2_takeDate_37 : decode cX2_takeDate 37 = .ok (.aload_n 0, 1) := by decide +kernel
theorem dX2_takeDate_38 : decode cX2_takeDate 38 = .ok (.getfield 13, 3) := by decide +kernel
theorem dX2_takeDate_41 : decode cX2_takeDate 41 = .ok (.iload_n 2, 1) := by decide +kernel
theorem dX2_takeDate_42 : decode cX2_takeDate 42 = .ok (.iaload, 1) := by decide +kernel
theorem dX2_takeDate_43 : decode cX2_takeDate 43 = .ok (.aload_n 0, 1) := by decide +kernel
theorem dX2_takeDate_44 : decode cX2_takeDate 44 = .ok (.getfield 16, 3) := by decide +kernel
theorem dX2_takeDate_47 : decode cX2_takeDate 47 = .ok (.iload_n 2, 1) := by decide +kernel
theorem dX2_takeDate_48 : decode cX2_takeDate 48 = .ok (.iaload, 1) := by decide +kernel
theorem dX2_takeDate_49 : decode cX2_takeDate 49 = .ok (.aload_n 0, 1) := by decide +kernel
theorem dX2_takeDate_50 : decode cX2_takeDate 50 = .ok (.getfield 19, 3) := by decide +kernel
theorem dX2_takeDate_53 : decode cX2_takeDate 53 = .ok (.iload_n 1, 1) := by decide +kernel
theorem dX2_takeDate_54 : decode cX2_takeDate 54 = .ok (.laload, 1) := by decide +kernel
theorem dX2_takeDate_55 : decode cX2_takeDate 55 = .ok (.invokevirtual 119, 3) := by decide +kernel
theorem dX2_takeDate_58 : decode cX2_takeDate 58 = .ok (.ireturn, 1) := by decide +kernel
theorem dX2_takeTime_0 : decode cX2_takeTime 0 = .ok (.aload_n 0, 1) := by decide +kernel
theorem dX2_takeTime_1 : decode cX2_takeTime 1 = .ok (.iload_n 1, 1) := by decide +kernel
theorem dX2_takeTime_2 : decode cX2_takeTime 2 = .ok (.invokestatic 157, 3) := by decide +kernel
theorem dX2_takeTime_5 : decode cX2_takeTime 5 = .ok (.ifCond .ne 10, 3) := by decide +kernel
theorem dX2_takeTime_8 : decode cX2_takeTime 8 = .ok (.iload_n 2, 1) := by decide +kernel
theorem dX2_takeTime_9 : decode cX2_takeTime 9 = .ok (.invokestatic 157, 3) := by decide +kernel
theorem dX2_takeTime_12 : decode cX2_takeTime 12 = .ok (.ifCond .eq 7, 3) := by decide +kernel
theorem dX2_takeTime_15 : decode cX2_takeTime 15 = .ok (.iconst 1, 1) := by decide +kernel
theorem dX2_takeTime_16 : decode cX2_takeTime 16 = .ok (.goto 4, 3) := by decide +kernel
theorem dX2_takeTime_19 : decode cX2_takeTime 19 = .ok (.iconst 0, 1) := by decide +kernel
theorem dX2_takeTime_20 : decode cX2_takeTime 20 = .ok (.iconst 0, 1) := by decide +kernel
theorem dX2_takeTime_21 : decode cX2_takeTime 21 = .ok (.invokevirtual 160, 3) := by decide +kernel
theorem dX2_takeTime_24 : decode cX2_takeTime 24 = .ok (.ifCond .eq 5, 3) := by decide +kernel
theorem dX2_takeTime_27 : decode cX2_takeTime 27 = .ok (.iconst 0, 1) := by decide +kernel
theorem dX2_takeTime_28 : decode cX2_takeTime 28 = .ok (.ireturn, 1) := by decide +kernel
theorem dX2_takeTime_29 : decode cX2_takeTime 29 = .ok (.aload_n 0, 1) := by decide +kernel
theorem dX2_takeTime_30 : decode cX2_takeTime 30 = .ok (.iload_n 1, 1) := by decide +kernel
theorem dX2_takeTime_31 : decode cX2_takeTime 31 = .ok (.aload_n 0, 1) := by decide +kernel
theorem dX2_takeTime_32 : decode cX2_takeTime 32 = .ok (.getfield 7, 3) := by decide +kernel
theorem dX2_takeTime_35 : decode cX2_takeTime 35 = .ok (.iload_n 1, 1) := by decide +kernel
theorem dX2_takeTime_36 : decode cX2_takeTime 36 = .ok (.iaload, 1) := by decide +kernel
theorem dX2_takeTime_37 : decode cX2_takeTime 37 = .ok (.aload_n 0, 1) := by decide +kernel
theorem dX2_takeTime_38 : decode cX2_takeTime 38 = .ok (.getfield 13, 3) := by decide +kernel
theorem dX2_takeTime_41 : decode cX2_takeTime 41 = .ok (.iload_n 1, 1) := by decide +kernel
theorem dX2_takeTime_42 : decode cX2_takeTime 42 = .ok (.iaload, 1) := by decide +kernel
theorem dX2_takeTime_43 : decode cX2_takeTime 43 = .ok (.aload_n 0, 1) := by decide +kernel
theorem dX2_takeTime_44 : decode cX2_takeTime 44 = .ok (.getfield 16, 3) := by decide +kernel
theorem dX2_takeTime_47 : decode cX2_takeTime 47 = .ok (.iload_n 1, 1) := by decide +kernel
theorem dX2_takeTime_48 : decode cX2_takeTime 48 = .ok (.iaload, 1) := by decide +kernel
theorem dX2_takeTime_49 : decode cX2_takeTime 49 = .ok (.aload_n 0, 1) := by decide +kernel
theorem dX2_takeTime_50 : decode cX2_takeTime 50 = .ok (.getfield 19, 3) := by decide +kernel
theorem dX2_takeTime_53 : decode cX2_takeTime 53 = .ok (.iload_n 2, 1) := by decide +kernel
theorem dX2_takeTime_54 : decode cX2_takeTime 54 = .ok (.laload, 1) := by decide +kernel
theorem dX2_takeTime_55 : decode cX2_takeTime 55 = .ok (.invokevirtual 119, 3) := by decide +kernel
theorem dX2_takeTime_58 : decode cX2_takeTime 58 = .ok (.ireturn, 1) := by decide +kernel
theorem dX2_withYear_0 : decode cX2_withYear 0 = .ok (.aload_n 0, 1) := by decide +kernel
theorem dX2_withYear_1 : decode cX2_withYear 1 = .ok (.iload_n 1, 1) := by decide +kernel
theorem dX2_withYear_2 : decode cX2_withYear 2 = .ok (.invokestatic 157, 3) := by decide +kernel
theorem dX2_withYear_5 : decode cX2_withYear 5 = .ok (.sipush (-9999), 3) := by decide +kernel
theorem dX2_withYear_8 : decode cX2_withYear 8 = .ok (.sipush 9999, 3) := by decide +kernel
theorem dX2_withYear_11 : decode cX2_withYear 11 = .ok (.iload_n 2, 1) := by decide +kernel
theorem dX2_withYear_12 : decode cX2_withYear 12 = .ok (.invokestatic 86, 3) := by decide +kernel
theorem dX2_withYear_15 : decode cX2_withYear 15 = .ok (.ifCond .ne 7, 3) := by decide +kernel
theorem dX2_withYear_18 : decode cX2_withYear 18 = .ok (.iconst 1, 1) := by decide +kernel
theorem dX2_withYear_19 : decode cX2_withYear 19 = .ok (.goto 4, 3) := by decide +kernel
theorem dX2_withYear_22 : decode cX2_withYear 22 = .ok (.iconst 0, 1) := by decide +kernel
theorem dX2_withYear_23 : decode cX2_withYear 23 = .ok (.invokevirtual 160, 3) := by decide +kernel
theorem dX2_withYear_26 : decode cX2_withYear 26 = .ok (.ifCond .eq 5, 3) := by decide +kernel
theorem dX2_withYear_29 : decode cX2_withYear 29 = .ok (.iconst 0, 1) := by decide +kernel
theorem dX2_withYear_30 : decode cX2_withYear 30 = .ok (.ireturn, 1) := by decide +kernel
theorem dX2_withYear_31 : decode cX2_withYear 31 = .ok (.aload_n 0, 1) := by decide +kernel
theorem dX2_withYear_32 : decode cX2_withYear 32 = .ok (.iload_n 1, 1) := by decide +kernel
theorem dX2_withYear_33 : decode cX2_withYear 33 = .ok (.iload_n 2, 1) := by decide +kernel
theorem dX2_withYear_34 : decode cX2_withYear 34 = .ok (.i2l, 1) := by decide +kernel
theorem dX2_withYear_35 : decode cX2_withYear 35 = .ok (.aload_n 0, 1) := by decide +kernel
theorem dX2_withYear_36 : decode cX2_withYear 36 = .ok (.getfield 13, 3) := by decide +kernel
theorem dX2_withYear_39 : decode cX2_withYear 39 = .ok (.iload_n 1, 1) := by decide +kernel
theorem dX2_withYear_40 : decode cX2_withYear 40 = .ok (.iaload, 1) := by decide +kernel
theorem dX2_withYear_41 : decode cX2_withYear 41 = .ok (.invokevirtual 134, 3) := by decide +kernel
theorem dX2_withYear_44 : decode cX2_withYear 44 = .ok (.ireturn, 1) := by decide +kernel
theorem dX2_withMonth_0 : decode cX2_withMonth 0 = .ok (.aload_n 0, 1) := by decide +kernel
theorem dX2_withMonth_1 : decode cX2_withMonth 1 = .ok (.iload_n 1, 1) := by decide +kernel
theorem dX2_withMonth_2 : decode cX2_withMonth 2 = .ok (.invokestatic 157, 3) := by decide +kernel
theorem dX2_withMonth_5 : decode cX2_withMonth 5 = .ok (.iconst 1, 1) := by decide +kernel
theorem dX2_withMonth_6 : decode cX2_withMonth 6 = .ok (.bipush 12, 2) := by decide +kernel
theorem dX2_withMonth_8 : decode cX2_withMonth 8 = .ok (.iload_n 2, 1) := by decide +kernel
theorem dX2_withMonth_9 : decode cX2_withMonth 9 = .ok (.invokestatic 86, 3) := by decide +kernel
theorem dX2_withMonth_12 : decode cX2_withMonth 12 = .ok (.ifCond .ne 7, 3) := by decide +kernel
theorem dX2_withMonth_15 : decode cX2_withMonth 15 = .ok (.iconst 1, 1) := by decide +kernel
theorem dX2_withMonth_16 : decode cX2_withMonth 16 = .ok (.goto 4, 3) := by decide +kernel
theorem dX2_withMonth_19 : decode cX2_withMonth 19 = .ok (.iconst 0, 1) := by decide +kernel
theorem dX2_withMonth_20 : decode cX2_withMonth 20 = .ok (.invokevirtual 160, 3) := by decide +kernel
theorem dX2_withMonth_23 : decode cX2_withMonth 23 = .ok (.ifCond .eq 5, 3) := by decide +kernel
theorem dX2_withMonth_26 : decode cX2_withMonth 26 = .ok (.iconst 0, 1) := by decide +kernel
theorem dX2_withMonth_27 : decode cX2_withMonth 27 = .ok (.ireturn, 1) := by decide +kernel
theorem dX2_withMonth_28 : decode cX2_withMonth 28 = .ok (.aload_n 0, 1) := by decide +kernel
theorem dX2_withMonth_29 : decode cX2_withMonth 29 = .ok (.iload_n 1, 1) := by decide +kernel
theorem dX2_withMonth_30 : decode cX2_withMonth 30 = .ok (.aload_n 0, 1) := by decide +kernel
theorem dX2_withMonth_31 : decode cX2_withMonth 31 = .ok (.getfield 7, 3) := by decide +kernel
theorem dX2_withMonth_34 : decode cX2_withMonth 34 = .ok (.iload_n 1, 1) := by decide +kernel
theorem dX2_withMonth_35 : decode cX2_withMonth 35 = .ok (.iaload, 1) := by decide +kernel
theorem dX2_withMonth_36 : decode cX2_withMonth 36 = .ok (.i2l, 1) := by decide +kernel
theorem dX2_withMonth_37 : decode cX2_withMonth 37 = .ok (.iload_n 2, 1) := by decide +kernel
theorem dX2_withMonth_38 : decode cX2_withMonth 38 = .ok (.invokevirtual 134, 3) := by decide +kernel
theorem dX2_withMonth_41 : decode cX2_withMonth 41 = .ok (.ireturn, 1) := by decide +kernel
theorem dX2_withDayOfMonth_0 : decode cX2_withDayOfMonth 0 = .ok (.aload_n 0, 1) := by decide +kernel
theorem dX2_withDayOfMonth_1 : decode cX2_withDayOfMonth 1 = .ok (.iload_n 1, 1) := by decide +kernel
theorem dX2_withDayOfMonth_2 : decode cX2_withDayOfMonth 2 = .ok (.invokestatic 157, 3) := by decide +kernel
theorem dX2_withDayOfMonth_5 : decode cX2_withDayOfMonth 5 = .ok (.iconst 1, 1) := by decide +kernel
theorem dX2_withDayOfMonth_6 : decode cX2_withDayOfMonth 6 = .ok (.bipush 31, 2) := by decide +kernel
theorem dX2_withDayOfMonth_8 : decode cX2_withDayOfMonth 8 = .ok (.iload_n 2, 1) := by decide +kernel
theorem dX2_withDayOfMonth_9 : decode cX2_withDayOfMonth 9 = .ok (.invokestatic 86, 3) := by decide +kernel
theorem dX2_withDayOfMonth_12 : decode cX2_withDayOfMonth 12 = .ok (.ifCond .ne 7, 3) := by decide +kernel
theorem dX2_withDayOfMonth_15 : decode cX2_withDayOfMonth 15 = .ok (.iconst 1, 1) := by decide +kernel
theorem dX2_withDayOfMonth_16 : decode cX2_withDayOfMonth 16 = .ok (.goto 4, 3) := by decide +kernel
theorem dX2_withDayOfMonth_19 : decode cX2_withDayOfMonth 19 = .ok (.iconst 0, 1) := by decide +kernel
theorem dX2_withDayOfMonth_20 : decode cX2_withDayOfMonth 20 = .ok (.invokevirtual 160, 3) := by decide +kernel
theorem dX2_withDayOfMonth_23 : decode cX2_withDayOfMonth 23 = .ok (.ifCond .eq 5, 3) := by decide +kernel
theorem dX2_withDayOfMonth_26 : decode cX2_withDayOfMonth 26 = .ok (.iconst 0, 1) := by decide +kernel
theorem dX2_withDayOfMonth_27 : decode cX2_withDayOfMonth 27 = .ok (.ireturn, 1) := by decide +kernel
theorem dX2_withDayOfMonth_28 : decode cX2_withDayOfMonth 28 = .ok (.iload_n 2, 1) := by decide +kernel
theorem dX2_withDayOfMonth_29 : decode cX2_withDayOfMonth 29 = .ok (.aload_n 0, 1) := by decide +kernel
theorem dX2_withDayOfMonth_30 : decode cX2_withDayOfMonth 30 = .ok (.getfield 7, 3) := by decide +kernel
theorem dX2_withDayOfMonth_33 : decode cX2_withDayOfMonth 33 = .ok (.iload_n 1, 1) := by decide +kernel
theorem dX2_withDayOfMonth_34 : decode cX2_withDayOfMonth 34 = .ok (.iaload, 1) := by decide +kernel
theorem dX2_withDayOfMonth_35 : decode cX2_withDayOfMonth 35 = .ok (.aload_n 0, 1) := by decide +kernel
theorem dX2_withDayOfMonth_36 : decode cX2_withDayOfMonth 36 = .ok (.getfield 13, 3) := by decide +kernel
theorem dX2_withDayOfMonth_39 : decode cX2_withDayOfMonth 39 = .ok (.iload_n 1, 1) := by decide +kernel
theorem dX2_withDayOfMonth_40 : decode cX2_withDayOfMonth 40 = .ok (.iaload, 1) := by decide +kernel
theorem dX2_withDayOfMonth_41 : decode cX2_withDayOfMonth 41 = .ok (.invokestatic 49, 3) := by decide +kernel
theorem dX2_withDayOfMonth_44 : decode cX2_withDayOfMonth 44 = .ok (.if_icmp .le 8, 3) := by decide +kernel
theorem dX2_withDayOfMonth_47 : decode cX2_withDayOfMonth 47 = .ok (.aload_n 0, 1) := by decide +kernel
theorem dX2_withDayOfMonth_48 : decode cX2_withDayOfMonth 48 = .ok (.invokevirtual 111, 3) := by decide +kernel
theorem dX2_withDayOfMonth_51 : decode cX2_withDayOfMonth 51 = .ok (.ireturn, 1) := by decide +kernel
theorem dX2_withDayOfMonth_52 : decode cX2_withDayOfMonth 52 = .ok (.aload_n 0, 1) := by decide +kernel
theorem dX2_withDayOfMonth_53 : decode cX2_withDayOfMonth 53 = .ok (.iload_n 1, 1) := by decide +kernel
theorem dX2_withDayOfMonth_54 : decode cX2_withDayOfMonth 54 = .ok (.aload_n 0, 1) := by decide +kernel
theorem dX2_withDayOfMonth_55 : decode cX2_withDayOfMonth 55 = .ok (.getfield 7, 3) := by decide +kernel
theorem dX2_withDayOfMonth_58 : decode cX2_withDayOfMonth 58 = .ok (.iload_n 1, 1) := by decide +kernel
theorem dX2_withDayOfMonth_59 : decode cX2_withDayOfMonth 59 = .ok (.iaload, 1) := by decide +kernel
theorem dX2_withDayOfMonth_60 : decode cX2_withDayOfMonth 60 = .ok (.aload_n 0, 1) := by decide +kernel
theorem dX2_withDayOfMonth_61 : decode cX2_withDayOfMonth 61 = .ok (.getfield 13, 3) := by decide +kernel
theorem dX2_withDayOfMonth_64 : decode cX2_withDayOfMonth 64 = .ok (.iload_n 1, 1) := by decide +kernel
theorem dX2_withDayOfMonth_65 : decode cX2_withDayOfMonth 65 = .ok (.iaload, 1) := by decide +kernel
theorem dX2_withDayOfMonth_66 : decode cX2_withDayOfMonth 66 = .ok (.iload_n 2, 1) := by decide +kernel
theorem dX2_withDayOfMonth_67 : decode cX2_withDayOfMonth 67 = .ok (.aload_n 0, 1) := by decide +kernel
theorem dX2_withDayOfMonth_68 : decode cX2_withDayOfMonth 68 = .ok (.getfield 19, 3) := by decide +kernel
theorem dX2_withDayOfMonth_71 : decode cX2_withDayOfMonth 71 = .ok (.iload_n 1, 1) := by decide +kernel
theorem dX2_withDayOfMonth_72 : decode cX2_withDayOfMonth 72 = .ok (.laload, 1) := by decide +kernel
theorem dX2_withDayOfMonth_73 : decode cX2_withDayOfMonth 73 = .ok (.invokevirtual 119, 3) := by decide +kernel
theorem dX2_withDayOfMonth_76 : decode cX2_withDayOfMonth 76 = .ok (.ireturn, 1) := by decide +kernel
theorem dX2_withDayOfYear_0 : decode cX2_withDayOfYear 0 = .ok (.aload_n 0, 1) := by decide +kernel
theorem dX2_withDayOfYear_1 : decode cX2_withDayOfYear 1 = .ok (.iload_n 1, 1) := by decide +kernel
theorem dX2_withDayOfYear_2 : decode cX2_withDayOfYear 2 = .ok (.invokestatic 157, 3) := by decide +kernel
theorem dX2_withDayOfYear_5 : decode cX2_withDayOfYear 5 = .ok (.iconst 1, 1) := by decide +kernel
theorem dX2_withDayOfYear_6 : decode cX2_withDayOfYear 6 = .ok (.sipush 366, 3) := by decide +kernel
theorem dX2_withDayOfYear_9 : decode cX2_withDayOfYear 9 = .ok (.iload_n 2, 1) := by decide +kernel
theorem dX2_withDayOfYear_10 : decode cX2_withDayOfYear 10 = .ok (.invokestatic 86, 3) := by decide +kernel
theorem dX2_withDayOfYear_13 : decode cX2_withDayOfYear 13 = .ok (.ifCond .ne 7, 3) := by decide +kernel
theorem dX2_withDayOfYear_16 : decode cX2_withDayOfYear 16 = .ok (.iconst 1, 1) := by decide +kernel
theorem dX2_withDayOfYear_17 : decode cX2_withDayOfYear 17 = .ok (.goto 4, 3) := by decide +kernel
theorem dX2_withDayOfYear_20 : decode cX2_withDayOfYear 20 = .ok (.iconst 0, 1) := by decide +kernel
theorem dX2_withDayOfYear_21 : decode cX2_withDayOfYear 21 = .ok (.invokevirtual 160, 3) := by decide +kernel
theorem dX2_withDayOfYear_24 : decode cX2_withDayOfYear 24 = .ok (.ifCond .eq 5, 3) := by decide +kernel
theorem dX2_withDayOfYear_27 : decode cX2_withDayOfYear 27 = .ok (.iconst 0, 1) := by decide +kernel
theorem dX2_withDayOfYear_28 : decode cX2_withDayOfYear 28 = .ok (.ireturn, 1) := by decide +kernel
theorem dX2_withDayOfYear_29 : decode cX2_withDayOfYear 29 = .ok (.iload_n 2, 1) := by decide +kernel
theorem dX2_withDayOfYear_30 : decode cX2_withDayOfYear 30 = .ok (.aload_n 0, 1) := by decide +kernel
theorem dX2_withDayOfYear_31 : decode cX2_withDayOfYear 31 = .ok (.getfield 7, 3) := by decide +kernel
theorem dX2_withDayOfYear_34 : decode cX2_withDayOfYear 34 = .ok (.iload_n 1, 1) := by decide +kernel
theorem dX2_withDayOfYear_35 : decode cX2_withDayOfYear 35 = .ok (.iaload, 1) := by decide +kernel
theorem dX2_withDayOfYear_36 : decode cX2_withDayOfYear 36 = .ok (.invokestatic 65, 3) := by decide +kernel
theorem dX2_withDayOfYear_39 : decode cX2_withDayOfYear 39 = .ok (.if_icmp .le 8, 3) := by decide +kernel
theorem dX2_withDayOfYear_42 : decode cX2_withDayOfYear 42 = .ok (.aload_n 0, 1) := by decide +kernel
theorem dX2_withDayOfYear_43 : decode cX2_withDayOfYear 43 = .ok (.invokevirtual 111, 3) := by decide +kernel
theorem dX2_withDayOfYear_46 : decode cX2_withDayOfYear 46 = .ok (.ireturn, 1) := by decide +kernel
theorem dX2_withDayOfYear_47 : decode cX2_withDayOfYear 47 = .ok (.aload_n 0, 1) := by decide +kernel
theorem dX2_withDayOfYear_48 : decode cX2_withDayOfYear 48 = .ok (.iload_n 1, 1) := by decide +kernel
theorem dX2_withDayOfYear_49 : decode cX2_withDayOfYear 49 = .ok (.aload_n 0, 1) := by decide +kernel
theorem dX2_withDayOfYear_50 : decode cX2_withDayOfYear 50 = .ok (.getfield 7, 3) := by decide +kernel
theorem dX2_withDayOfYear_53 : decode cX2_withDayOfYear 53 = .ok (.iload_n 1, 1) := by decide +kernel
theorem dX2_withDayOfYear_54 : decode cX2_withDayOfYear 54 = .ok (.iaload, 1) := by decide +kernel
theorem dX2_withDayOfYear_55 : decode cX2_withDayOfYear 55 = .ok (.iconst 1, 1) := by decide +kernel
theorem dX2_withDayOfYear_56 : decode cX2_withDayOfYear 56 = .ok (.iconst 1, 1) := by decide +kernel
theorem dX2_withDayOfYear_57 : decode cX2_withDayOfYear 57 = .ok (.invokestatic 93, 3) := by decide +kernel
theorem dX2_withDayOfYear_60 : decode cX2_withDayOfYear 60 = .ok (.iload_n 2, 1) := by decide +kernel
theorem dX2_withDayOfYear_61 : decode cX2_withDayOfYear 61 = .ok (.i2l, 1) := by decide +kernel
theorem dX2_withDayOfYear_62 : decode cX2_withDayOfYear 62 = .ok (.ladd, 1) := by decide +kernel
theorem dX2_withDayOfYear_63 : decode cX2_withDayOfYear 63 = .ok (.lconst 1, 1) := by decide +kernel
theorem dX2_withDayOfYear_64 : decode cX2_withDayOfYear 64 = .ok (.lsub, 1) := by decide +kernel
theorem dX2_withDayOfYear_65 : decode cX2_withDayOfYear 65 = .ok (.aload_n 0, 1) := by decide +kernel
theorem dX2_withDayOfYear_66 : decode cX2_withDayOfYear 66 = .ok (.getfield 19, 3) := by decide +kernel
theorem dX2_withDayOfYear_69 : decode cX2_withDayOfYear 69 = .ok (.iload_n 1, 1) := by decide +kernel
theorem dX2_withDayOfYear_70 : decode cX2_withDayOfYear 70 = .ok (.laload, 1) := by decide +kernel
theorem dX2_withDayOfYear_71 : decode cX2_withDayOfYear 71 = .ok (.invokevirtual 138, 3) := by decide +kernel
theorem dX2_withDayOfYear_74 : decode cX2_withDayOfYear 74 = .ok (.ireturn, 1) := by decide +kernel
theorem dX2_withPart_0 : decode cX2_withPart 0 = .ok (.aload_n 0, 1) := by decide +kernel
theorem dX2_withPart_1 : decode cX2_withPart 1 = .ok (.getfield 19, 3) := by decide +kernel
theorem dX2_withPart_4 : decode cX2_withPart 4 = .ok (.iload_n 1, 1) := by decide +kernel
theorem dX2_withPart_5 : decode cX2_withPart 5 = .ok (.laload, 1) := by decide +kernel
theorem dX2_withPart_6 : decode cX2_withPart 6 = .ok (.lload_n 2, 1) := by decide +kernel
theorem dX2_withPart_7 : decode cX2_withPart 7 = .ok (.lload 4, 2) := by decide +kernel
theorem dX2_withPart_9 : decode cX2_withPart 9 = .ok (.lmul, 1) := by decide +kernel
theorem dX2_withPart_10 : decode cX2_withPart 10 = .ok (.ldiv, 1) := by decide +kernel
theorem dX2_withPart_11 : decode cX2_withPart 11 = .ok (.lload_n 2, 1) := by decide +kernel
theorem dX2_withPart_12 : decode cX2_withPart 12 = .ok (.lload 4, 2) := by decide +kernel
theorem dX2_withPart_14 : decode cX2_withPart 14 = .ok (.lmul, 1) := by decide +kernel
theorem dX2_withPart_15 : decode cX2_withPart 15 = .ok (.lmul, 1) := by decide +kernel
theorem dX2_withPart_16 : decode cX2_withPart 16 = .ok (.lstore 8, 2) := by decide +kernel
theorem dX2_withPart_18 : decode cX2_withPart 18 = .ok (.aload_n 0, 1) := by decide +kernel
theorem dX2_withPart_19 : decode cX2_withPart 19 = .ok (.iload_n 1, 1) := by decide +kernel
theorem dX2_withPart_20 : decode cX2_withPart 20 = .ok (.aload_n 0, 1) := by decide +kernel
theorem dX2_withPart_21 : decode cX2_withPart 21 = .ok (.getfield 7, 3) := by decide +kernel
theorem dX2_withPart_24 : decode cX2_withPart 24 = .ok (.iload_n 1, 1) := by decide +kernel
theorem dX2_withPart_25 : decode cX2_withPart 25 = .ok (.iaload, 1) := by decide +kernel
theorem dX2_withPart_26 : decode cX2_withPart 26 = .ok (.aload_n 0, 1) := by decide +kernel
theorem dX2_withPart_27 : decode cX2_withPart 27 = .ok (.getfield 13, 3) := by decide +kernel
theorem dX2_withPart_30 : decode cX2_withPart 30 = .ok (.iload_n 1, 1) := by decide +kernel
theorem dX2_withPart_31 : decode cX2_withPart 31 = .ok (.iaload, 1) := by decide +kernel
theorem dX2_withPart_32 : decode cX2_withPart 32 = .ok (.aload_n 0, 1) := by decide +kernel
theorem dX2_withPart_33 : decode cX2_withPart 33 = .ok (.getfield 16, 3) := by decide +kernel
theorem dX2_withPart_36 : decode cX2_withPart 36 = .ok (.iload_n 1, 1) := by decide +kernel
theorem dX2_withPart_37 : decode cX2_withPart 37 = .ok (.iaload, 1) := by decide +kernel
theorem dX2_withPart_38 : decode cX2_withPart 38 = .ok (.lload 8, 2) := by decide +kernel
theorem dX2_withPart_40 : decode cX2_withPart 40 = .ok (.lload 6, 2) := by decide +kernel
theorem dX2_withPart_42 : decode cX2_withPart 42 = .ok (.lload_n 2, 1) := by decide +kernel
theorem dX2_withPart_43 : decode cX2_withPart 43 = .ok (.lmul, 1) := by decide +kernel
theorem dX2_withPart_44 : decode cX2_withPart 44 = .ok (.ladd, 1) := by decide +kernel
theorem dX2_withPart_45 : decode cX2_withPart 45 = .ok (.aload_n 0, 1) := by decide +kernel
theorem dX2_withPart_46 : decode cX2_withPart 46 = .ok (.getfield 19, 3) := by decide +kernel
theorem dX2_withPart_49 : decode cX2_withPart 49 = .ok (.iload_n 1, 1) := by decide +kernel
theorem dX2_withPart_50 : decode cX2_withPart 50 = .ok (.laload, 1) := by decide +kernel
theorem dX2_withPart_51 : decode cX2_withPart 51 = .ok (.lload_n 2, 1) := by decide +kernel
theorem dX2_withPart_52 : decode cX2_withPart 52 = .ok (.lrem, 1) := by decide +kernel
theorem dX2_withPart_53 : decode cX2_withPart 53 = .ok (.ladd, 1) := by decide +kernel
theorem dX2_withPart_54 : decode cX2_withPart 54 = .ok (.invokevirtual 119, 3) := by decide +kernel
theorem dX2_withPart_57 : decode cX2_withPart 57 = .ok (.ireturn, 1) := by decide +kernel
theorem dX2_withHour_0 : decode cX2_withHour 0 = .ok (.aload_n 0, 1) := by decide +kernel
theorem dX2_withHour_1 : decode cX2_withHour 1 = .ok (.iload_n 1, 1) := by decide +kernel
theorem dX2_withHour_2 : decode cX2_withHour 2 = .ok (.invokestatic 157, 3) := by decide +kernel
theorem dX2_withHour_5 : decode cX2_withHour 5 = .ok (.iconst 0, 1) := by decide +kernel
theorem dX2_withHour_6 : decode cX2_withHour 6 = .ok (.bipush 23, 2) := by decide +kernel
theorem dX2_withHour_8 : decode cX2_withHour 8 = .ok (.iload_n 2, 1) := by decide +kernel
theorem dX2_withHour_9 : decode cX2_withHour 9 = .ok (.invokestatic 86, 3) := by decide +kernel
theorem dX2_withHour_12 : decode cX2_withHour 12 = .ok (.ifCond .ne 7, 3) := by decide +kernel
theorem dX2_withHour_15 : decode cX2_withHour 15 = .ok (.iconst 1, 1) := by decide +kernel
theorem dX2_withHour_16 : decode cX2_withHour 16 = .ok (.goto 4, 3) := by decide +kernel
theorem dX2_withHour_19 : decode cX2_withHour 19 = .ok (.iconst 0, 1) := by decide +kernel
theorem dX2_withHour_20 : decode cX2_withHour 20 = .ok (.invokevirtual 160, 3) := by decide +kernel
theorem dX2_withHour_23 : decode cX2_withHour 23 = .ok (.ifCond .eq 7, 3) := by decide +kernel
theorem dX2_withHour_26 : decode cX2_withHour 26 = .ok (.iconst 0, 1) := by decide +kernel
theorem dX2_withHour_27 : decode cX2_withHour 27 = .ok (.goto 16, 3) := by decide +kernel
theorem dX2_withHour_30 : decode cX2_withHour 30 = .ok (.aload_n 0, 1) := by decide +kernel
theorem dX2_withHour_31 : decode cX2_withHour 31 = .ok (.iload_n 1, 1) := by decide +kernel
theorem dX2_withHour_32 : decode cX2_withHour 32 = .ok (.ldc2_w 78, 3) := by decide +kernel
theorem dX2_withHour_35 : decode cX2_withHour 35 = .ok (.ldc2_w 169, 3) := by decide +kernel
theorem dX2_withHour_38 : decode cX2_withHour 38 = .ok (.iload_n 2, 1) := by decide +kernel
theorem dX2_withHour_39 : decode cX2_withHour 39 = .ok (.i2l, 1) := by decide +kernel
theorem dX2_withHour_40 : decode cX2_withHour 40 = .ok (.invokevirtual 171, 3) := by decide +kernel
theorem dX2_withHour_43 : decode cX2_withHour 43 = .ok (.ireturn, 1) := by decide +kernel
theorem dX2_withMinute_0 : decode cX2_withMinute 0 = .ok (.aload_n 0, 1) := by decide +kernel
theorem dX2_withMinute_1 : decode cX2_withMinute 1 = .ok (.iload_n 1, 1) := by decide +kernel
theorem dX2_withMinute_2 : decode cX2_withMinute 2 = .ok (.invokestatic 157, 3) := by decide +kernel
theorem dX2_withMinute_5 : decode cX2_withMinute 5 = .ok (.iconst 0, 1) := by decide +kernel
theorem dX2_withMinute_6 : decode cX2_withMinute 6 = .ok (.bipush 59, 2) := by decide +kernel
theorem dX2_withMinute_8 : decode cX2_withMinute 8 = .ok (.iload_n 2, 1) := by decide +kernel
theorem dX2_withMinute_9 : decode cX2_withMinute 9 = .ok (.invokestatic 86, 3) := by decide +kernel
theorem dX2_withMinute_12 : decode cX2_withMinute 12 = .ok (.ifCond .ne 7, 3) := by decide +kernel
theorem dX2_withMinute_15 : decode cX2_withMinute 15 = .ok (.iconst 1, 1) := by decide +kernel
theorem dX2_withMinute_16 : decode cX2_withMinute 16 = .ok (.goto 4, 3) := by decide +kernel
theorem dX2_withMinute_19 : decode cX2_withMinute 19 = .ok (.iconst 0, 1) := by decide +kernel
theorem dX2_withMinute_20 : decode cX2_withMinute 20 = .ok (.invokevirtual 160, 3) := by decide +kernel
theorem dX2_withMinute_23 : decode cX2_withMinute 23 = .ok (.ifCond .eq 7, 3) := by decide +kernel
theorem dX2_withMinute_26 : decode cX2_withMinute 26 = .ok (.iconst 0, 1) := by decide +kernel
theorem dX2_withMinute_27 : decode cX2_withMinute 27 = .ok (.goto 16, 3) := by decide +kernel
theorem dX2_withMinute_30 : decode cX2_withMinute 30 = .ok (.aload_n 0, 1) := by decide +kernel
theorem dX2_withMinute_31 : decode cX2_withMinute 31 = .ok (.iload_n 1, 1) := by decide +kernel
theorem dX2_withMinute_32 : decode cX2_withMinute 32 = .ok (.ldc2_w 76, 3) := by decide +kernel
theorem dX2_withMinute_35 : decode cX2_withMinute 35 = .ok (.ldc2_w 155, 3) := by decide +kernel
theorem dX2_withMinute_38 : decode cX2_withMinute 38 = .ok (.iload_n 2, 1) := by decide +kernel
theorem dX2_withMinute_39 : decode cX2_withMinute 39 = .ok (.i2l, 1) := by decide +kernel
theorem dX2_withMinute_40 : decode cX2_withMinute 40 = .ok (.invokevirtual 171, 3) := by decide +kernel
theorem dX2_withMinute_43 : decode cX2_withMinute 43 = .ok (.ireturn, 1) := by decide +kernel
theorem dX2_withSecond_0 : decode cX2_withSecond 0 = .ok (.aload_n 0, 1) := by decide +kernel
theorem dX2_withSecond_1 : decode cX2_withSecond 1 = .ok (.iload_n 1, 1) := by decide +kernel
theorem dX2_withSecond_2 : decode cX2_withSecond 2 = .ok (.invokestatic 157, 3) := by decide +kernel
theorem dX2_withSecond_5 : decode cX2_withSecond 5 = .ok (.iconst 0, 1) := by decide +kernel
theorem dX2_withSecond_6 : decode cX2_withSecond 6 = .ok (.bipush 59, 2) := by decide +kernel
theorem dX2_withSecond_8 : decode cX2_withSecond 8 = .ok (.iload_n 2, 1) := by decide +kernel
theorem dX2_withSecond_9 : decode cX2_withSecond 9 = .ok (.invokestatic 86, 3) := by decide +kernel
theorem dX2_withSecond_12 : decode cX2_withSecond 12 = .ok (.ifCond .ne 7, 3) := by decide +kernel
theorem dX2_withSecond_15 : decode cX2_withSecond 15 = .ok (.iconst 1, 1) := by decide +kernel
theorem dX2_withSecond_16 : decode cX2_withSecond 16 = .ok (.goto 4, 3) := by decide +kernel
theorem dX2_withSecond_19 : decode cX2_withSecond 19 = .ok (.iconst 0, 1) := by decide +kernel
theorem dX2_withSecond_20 : decode cX2_withSecond 20 = .ok (.invokevirtual 160, 3) := by decide +kernel
theorem dX2_withSecond_23 : decode cX2_withSecond 23 = .ok (.ifCond .eq 7, 3) := by decide +kernel
theorem dX2_withSecond_26 : decode cX2_withSecond 26 = .ok (.iconst 0, 1) := by decide +kernel
theorem dX2_withSecond_27 : decode cX2_withSecond 27 = .ok (.goto 16, 3) := by decide +kernel
theorem dX2_withSecond_30 : decode cX2_withSecond 30 = .ok (.aload_n 0, 1) := by decide +kernel
theorem dX2_withSecond_31 : decode cX2_withSecond 31 = .ok (.iload_n 1, 1) := by decide +kernel
theorem dX2_withSecond_32 : decode cX2_withSecond 32 = .ok (.ldc2_w 74, 3) := by decide +kernel
theorem dX2_withSecond_35 : decode cX2_withSecond 35 = .ok (.ldc2_w 155, 3) := by decide +kernel
theorem dX2_withSecond_38 : decode cX2_withSecond 38 = .ok (.iload_n 2, 1) := by decide +kernel
theorem dX2_withSecond_39 : decode cX2_withSecond 39 = .ok (.i2l, 1) := by decide +kernel
theorem dX2_withSecond_40 : decode cX2_withSecond 40 = .ok (.invokevirtual 171, 3) := by decide +kernel
theorem dX2_withSecond_43 : decode cX2_withSecond 43 = .ok (.ireturn, 1) := by decide +kernel
theorem dX2_withNano_0 : decode cX2_withNano 0 = .ok (.aload_n 0, 1) := by decide +kernel
theorem dX2_withNano_1 : decode cX2_withNano 1 = .ok (.iload_n 1, 1) := by decide +kernel
theorem dX2_withNano_2 : decode cX2_withNano 2 = .ok (.invokestatic 157, 3) := by decide +kernel
theorem dX2_withNano_5 : decode cX2_withNano 5 = .ok (.iconst 0, 1) := by decide +kernel
theorem dX2_withNano_6 : decode cX2_withNano 6 = .ok (.ldc 142, 2) := by decide +kernel
theorem dX2_withNano_8 : decode cX2_withNano 8 = .ok (.iload_n 2, 1) := by decide +kernel
theorem dX2_withNano_9 : decode cX2_withNano 9 = .ok (.invokestatic 86, 3) := by decide +kernel
theorem dX2_withNano_12 : decode cX2_withNano 12 = .ok (.ifCond .ne 7, 3) := by decide +kernel
theorem dX2_withNano_15 : decode cX2_withNano 15 = .ok (.iconst 1, 1) := by decide +kernel
theorem dX2_withNano_16 : decode cX2_withNano 16 = .ok (.goto 4, 3) := by decide +kernel
theorem dX2_withNano_19 : decode cX2_withNano 19 = .ok (.iconst 0, 1) := by decide +kernel
theorem dX2_withNano_20 : decode cX2_withNano 20 = .ok (.invokevirtual 160, 3) := by decide +kernel
theorem dX2_withNano_23 : decode cX2_withNano 23 = .ok (.ifCond .eq 7, 3) := by decide +kernel
theorem dX2_withNano_26 : decode cX2_withNano 26 = .ok (.iconst 0, 1) := by decide +kernel
theorem dX2_withNano_27 : decode cX2_withNano 27 = .ok (.goto 14, 3) := by decide +kernel
theorem dX2_withNano_30 : decode cX2_withNano 30 = .ok (.aload_n 0, 1) := by decide +kernel
theorem dX2_withNano_31 : decode cX2_withNano 31 = .ok (.iload_n 1, 1) := by decide +kernel
theorem dX2_withNano_32 : decode cX2_withNano 32 = .ok (.lconst 1, 1) := by decide +kernel
theorem dX2_withNano_33 : decode cX2_withNano 33 = .ok (.ldc2_w 74, 3) := by decide +kernel
theorem dX2_withNano_36 : decode cX2_withNano 36 = .ok (.iload_n 2, 1) := by decide +kernel
theorem dX2_withNano_37 : decode cX2_withNano 37 = .ok (.i2l, 1) := by decide +kernel
theorem dX2_withNano_38 : decode cX2_withNano 38 = .ok (.invokevirtual 171, 3) := by decide +kernel
theorem dX2_withNano_41 : decode cX2_withNano 41 = .ok (.ireturn, 1) := by decide +kernel
theorem dX2_truncate_0 : decode cX2_truncate 0 = .ok (.aload_n 0, 1) := by decide +kernel
theorem dX2_truncate_1 : decode cX2_truncate 1 = .ok (.iload_n 1, 1) := by decide +kernel
theorem dX2_truncate_2 : decode cX2_truncate 2 = .ok (.invokestatic 157, 3) := by decide +kernel
theorem dX2_truncate_5 : decode cX2_truncate 5 = .ok (.iconst 0, 1) := by decide +kernel
theorem dX2_truncate_6 : decode cX2_truncate 6 = .ok (.bipush 7, 2) := by decide +kernel
theorem dX2_truncate_8 : decode cX2_truncate 8 = .ok (.iload_n 2, 1) := by decide +kernel
theorem dX2_truncate_9 : decode cX2_truncate 9 = .ok (.invokestatic 86, 3) := by decide +kernel
theorem dX2_truncate_12 : decode cX2_truncate 12 = .ok (.ifCond .ne 7, 3) := by decide +kernel
theorem dX2_truncate_15 : decode cX2_truncate 15 = .ok (.iconst 1, 1) := by decide +kernel
theorem dX2_truncate_16 : decode cX2_truncate 16 = .ok (.goto 4, 3) := by decide +kernel
theorem dX2_truncate_19 : decode cX2_truncate 19 = .ok (.iconst 0, 1) := by decide +kernel
theorem dX2_truncate_20 : decode cX2_truncate 20 = .ok (.invokevirtual 160, 3) := by decide +kernel
theorem dX2_truncate_23 : decode cX2_truncate 23 = .ok (.ifCond .eq 5, 3) := by decide +kernel
theorem dX2_truncate_26 : decode cX2_truncate 26 = .ok (.iconst 0, 1) := by decide +kernel
theorem dX2_truncate_27 : decode cX2_truncate 27 = .ok (.ireturn, 1) := by decide +kernel
theorem dX2_truncate_28 : decode cX2_truncate 28 = .ok (.aload_n 0, 1) := by decide +kernel
theorem dX2_truncate_29 : decode cX2_truncate 29 = .ok (.iload_n 1, 1) := by decide +kernel
theorem dX2_truncate_30 : decode cX2_truncate 30 = .ok (.aload_n 0, 1) := by decide +kernel
theorem dX2_truncate_31 : decode cX2_truncate 31 = .ok (.getfield 7, 3) := by decide +kernel
theorem dX2_truncate_34 : decode cX2_truncate 34 = .ok (.iload_n 1, 1) := by decide +kernel
theorem dX2_truncate_35 : decode cX2_truncate 35 = .ok (.iaload, 1) := by decide +kernel
theorem dX2_truncate_36 : decode cX2_truncate 36 = .ok (.aload_n 0, 1) := by decide +kernel
theorem dX2_truncate_37 : decode cX2_truncate 37 = .ok (.getfield 13, 3) := by decide +kernel
theorem dX2_truncate_40 : decode cX2_truncate 40 = .ok (.iload_n 1, 1) := by decide +kernel
theorem dX2_truncate_41 : decode cX2_truncate 41 = .ok (.iaload, 1) := by decide +kernel
theorem dX2_truncate_42 : decode cX2_truncate 42 = .ok (.aload_n 0, 1) := by decide +kernel
theorem dX2_truncate_43 : decode cX2_truncate 43 = .ok (.getfield 16, 3) := by decide +kernel
theorem dX2_truncate_46 : decode cX2_truncate 46 = .ok (.iload_n 1, 1) := by decide +kernel
theorem dX2_truncate_47 : decode cX2_truncate 47 = .ok (.iaload, 1) := by decide +kernel
theorem dX2_truncate_48 : decode cX2_truncate 48 = .ok (.aload_n 0, 1) := by decide +kernel
theorem dX2_truncate_49 : decode cX2_truncate 49 = .ok (.getfield 19, 3) := by decide +kernel
theorem dX2_truncate_52 : decode cX2_truncate 52 = .ok (.iload_n 1, 1) := by decide +kernel
theorem dX2_truncate_53 : decode cX2_truncate 53 = .ok (.laload, 1) := by decide +kernel
theorem dX2_truncate_54 : decode cX2_truncate 54 = .ok (.aload_n 0, 1) := by decide +kernel
theorem dX2_truncate_55 : decode cX2_truncate 55 = .ok (.getfield 19, 3) := by decide +kernel
theorem dX2_truncate_58 : decode cX2_truncate 58 = .ok (.iload_n 1, 1) := by decide +kernel
theorem dX2_truncate_59 : decode cX2_truncate 59 = .ok (.laload, 1) := by decide +kernel
theorem dX2_truncate_60 : decode cX2_truncate 60 = .ok (.iload_n 2, 1) := by decide +kernel
theorem dX2_truncate_61 : decode cX2_truncate 61 = .ok (.invokestatic 175, 3) := by decide +kernel
theorem dX2_truncate_64 : decode cX2_truncate 64 = .ok (.lrem, 1) := by decide +kernel
theorem dX2_truncate_65 : decode cX2_truncate 65 = .ok (.lsub, 1) := by decide +kernel
theorem dX2_truncate_66 : decode cX2_truncate 66 = .ok (.invokevirtual 119, 3) := by decide +kernel
theorem dX2_truncate_69 : decode cX2_truncate 69 = .ok (.ireturn, 1) := by decide +kernel
theorem dX2_plusYears_0 : decode cX2_plusYears 0 = .ok (.aload_n 0, 1) := by decide +kernel
theorem dX2_plusYears_1 : decode cX2_plusYears 1 = .ok (.iload_n 1, 1) := by decide +kernel
theorem dX2_plusYears_2 : decode cX2_plusYears 2 = .ok (.invokestatic 157, 3) := by decide +kernel
theorem dX2_plusYears_5 : decode cX2_plusYears 5 = .ok (.ldc 178, 2) := by decide +kernel
theorem dX2_plusYears_7 : decode cX2_plusYears 7 = .ok (.ldc 179, 2) := by decide +kernel
theorem dX2_plusYears_9 : decode cX2_plusYears 9 = .ok (.iload_n 2, 1) := by decide +kernel
theorem dX2_plusYears_10 : decode cX2_plusYears 10 = .ok (.invokestatic 86, 3) := by decide +kernel
theorem dX2_plusYears_13 : decode cX2_plusYears 13 = .ok (.ifCond .ne 7, 3) := by decide +kernel
theorem dX2_plusYears_16 : decode cX2_plusYears 16 = .ok (.iconst 1, 1) := by decide +kernel
theorem dX2_plusYears_17 : decode cX2_plusYears 17 = .ok (.goto 4, 3) := by decide +kernel
theorem dX2_plusYears_20 : decode cX2_plusYears 20 = .ok (.iconst 0, 1) := by decide +kernel
theorem dX2_plusYears_21 : decode cX2_plusYears 21 = .ok (.invokevirtual 160, 3) := by decide +kernel
theorem dX2_plusYears_24 : decode cX2_plusYears 24 = .ok (.ifCond .eq 7, 3) := by decide +kernel
theorem dX2_plusYears_27 : decode cX2_plusYears 27 = .ok (.iconst 0, 1) := by decide +kernel
theorem dX2_plusYears_28 : decode cX2_plusYears 28 = .ok (.goto 14, 3) := by decide +kernel
theorem dX2_plusYears_31 : decode cX2_plusYears 31 = .ok (.aload_n 0, 1) := by decide +kernel
theorem dX2_plusYears_32 : decode cX2_plusYears 32 = .ok (.iload_n 1, 1) := by decide +kernel
theorem dX2_plusYears_33 : decode cX2_plusYears 33 = .ok (.ldc2_w 132, 3) := by decide +kernel
theorem dX2_plusYears_36 : decode cX2_plusYears 36 = .ok (.iload_n 2, 1) := by decide +kernel
theorem dX2_plusYears_37 : decode cX2_plusYears 37 = .ok (.i2l, 1) := by decide +kernel
theorem dX2_plusYears_38 : decode cX2_plusYears 38 = .ok (.lmul, 1) := by decide +kernel
theorem dX2_plusYears_39 : decode cX2_plusYears 39 = .ok (.invokevirtual 180, 3) := by decide +kernel
theorem dX2_plusYears_42 : decode cX2_plusYears 42 = .ok (.ireturn, 1) := by decide +kernel
theorem dX2_plusMonths_0 : decode cX2_plusMonths 0 = .ok (.aload_n 0, 1) := by decide +kernel
theorem dX2_plusMonths_1 : decode cX2_plusMonths 1 = .ok (.iload_n 1, 1) := by decide +kernel
theorem dX2_plusMonths_2 : decode cX2_plusMonths 2 = .ok (.invokestatic 157, 3) := by decide +kernel
theorem dX2_plusMonths_5 : decode cX2_plusMonths 5 = .ok (.iconst 0, 1) := by decide +kernel
theorem dX2_plusMonths_6 : decode cX2_plusMonths 6 = .ok (.invokevirtual 160, 3) := by decide +kernel
theorem dX2_plusMonths_9 : decode cX2_plusMonths 9 = .ok (.ifCond .eq 7, 3) := by decide +kernel
theorem dX2_plusMonths_12 : decode cX2_plusMonths 12 = .ok (.iconst 0, 1) := by decide +kernel
theorem dX2_plusMonths_13 : decode cX2_plusMonths 13 = .ok (.goto 10, 3) := by decide +kernel
theorem dX2_plusMonths_16 : decode cX2_plusMonths 16 = .ok (.aload_n 0, 1) := by decide +kernel
theorem dX2_plusMonths_17 : decode cX2_plusMonths 17 = .ok (.iload_n 1, 1) := by decide +kernel
theorem dX2_plusMonths_18 : decode cX2_plusMonths 18 = .ok (.iload_n 2, 1) := by decide +kernel
theorem dX2_plusMonths_19 : decode cX2_plusMonths 19 = .ok (.i2l, 1) := by decide +kernel
theorem dX2_plusMonths_20 : decode cX2_plusMonths 20 = .ok (.invokevirtual 180, 3) := by decide +kernel
theorem dX2_plusMonths_23 : decode cX2_plusMonths 23 = .ok (.ireturn, 1) := by decide +kernel
theorem dX2_plusWeeks_0 : decode cX2_plusWeeks 0 = .ok (.aload_n 0, 1) := by decide +kernel
theorem dX2_plusWeeks_1 : decode cX2_plusWeeks 1 = .ok (.iload_n 1, 1) := by decide +kernel
theorem dX2_plusWeeks_2 : decode cX2_plusWeeks 2 = .ok (.invokestatic 157, 3) := by decide +kernel
theorem dX2_plusWeeks_5 : decode cX2_plusWeeks 5 = .ok (.iconst 0, 1) := by decide +kernel
theorem dX2_plusWeeks_6 : decode cX2_plusWeeks 6 = .ok (.invokevirtual 160, 3) := by decide +kernel
theorem dX2_plusWeeks_9 : decode cX2_plusWeeks 9 = .ok (.ifCond .eq 7, 3) := by decide +kernel
theorem dX2_plusWeeks_12 : decode cX2_plusWeeks 12 = .ok (.iconst 0, 1) := by decide +kernel
theorem dX2_plusWeeks_13 : decode cX2_plusWeeks 13 = .ok (.goto 17, 3) := by decide +kernel
theorem dX2_plusWeeks_16 : decode cX2_plusWeeks 16 = .ok (.aload_n 0, 1) := by decide +kernel
theorem dX2_plusWeeks_17 : decode cX2_plusWeeks 17 = .ok (.iload_n 1, 1) := by decide +kernel
theorem dX2_plusWeeks_18 : decode cX2_plusWeeks 18 = .ok (.ldc2_w 68, 3) := by decide +kernel
theorem dX2_plusWeeks_21 : decode cX2_plusWeeks 21 = .ok (.iload_n 2, 1) := by decide +kernel
theorem dX2_plusWeeks_22 : decode cX2_plusWeeks 22 = .ok (.i2l, 1) := by decide +kernel
theorem dX2_plusWeeks_23 : decode cX2_plusWeeks 23 = .ok (.lmul, 1) := by decide +kernel
theorem dX2_plusWeeks_24 : decode cX2_plusWeeks 24 = .ok (.ldc2_w 82, 3) := by decide +kernel
theorem dX2_plusWeeks_27 : decode cX2_plusWeeks 27 = .ok (.invokevirtual 184, 3) := by decide +kernel
theorem dX2_plusWeeks_30 : decode cX2_plusWeeks 30 = .ok (.ireturn, 1) := by decide +kernel
theorem dX2_plusDays_0 : decode cX2_plusDays 0 = .ok (.aload_n 0, 1) := by decide +kernel
theorem dX2_plusDays_1 : decode cX2_plusDays 1 = .ok (.iload_n 1, 1) := by decide +kernel
theorem dX2_plusDays_2 : decode cX2_plusDays 2 = .ok (.invokestatic 157, 3) := by decide +kernel
theorem dX2_plusDays_5 : decode cX2_plusDays 5 = .ok (.iconst 0, 1) := by decide +kernel
theorem dX2_plusDays_6 : decode cX2_plusDays 6 = .ok (.invokevirtual 160, 3) := by decide +kernel
theorem dX2_plusDays_9 : decode cX2_plusDays 9 = .ok (.ifCond .eq 7, 3) := by decide +kernel
theorem dX2_plusDays_12 : decode cX2_plusDays 12 = .ok (.iconst 0, 1) := by decide +kernel
theorem dX2_plusDays_13 : decode cX2_plusDays 13 = .ok (.goto 13, 3) := by decide +kernel
theorem dX2_plusDays_16 : decode cX2_plusDays 16 = .ok (.aload_n 0, 1) := by decide +kernel
theorem dX2_plusDays_17 : decode cX2_plusDays 17 = .ok (.iload_n 1, 1) := by decide +kernel
theorem dX2_plusDays_18 : decode cX2_plusDays 18 = .ok (.iload_n 2, 1) := by decide +kernel
theorem dX2_plusDays_19 : decode cX2_plusDays 19 = .ok (.i2l, 1) := by decide +kernel
theorem dX2_plusDays_20 : decode cX2_plusDays 20 = .ok (.ldc2_w 82, 3) := by decide +kernel
theorem dX2_plusDays_23 : decode cX2_plusDays 23 = .ok (.invokevirtual 184, 3) := by decide +kernel
theorem dX2_plusDays_26 : decode cX2_plusDays 26 = .ok (.ireturn, 1) := by decide +kernel
theorem dX2_plusHours_0 : decode cX2_plusHours 0 = .ok (.aload_n 0, 1) := by decide +kernel
theorem dX2_plusHours_1 : decode cX2_plusHours 1 = .ok (.iload_n 1, 1) := by decide +kernel
theorem dX2_plusHours_2 : decode cX2_plusHours 2 = .ok (.invokestatic 157, 3) := by decide +kernel
theorem dX2_plusHours_5 : decode cX2_plusHours 5 = .ok (.iconst 0, 1) := by decide +kernel
theorem dX2_plusHours_6 : decode cX2_plusHours 6 = .ok (.invokevirtual 160, 3) := by decide +kernel
theorem dX2_plusHours_9 : decode cX2_plusHours 9 = .ok (.ifCond .eq 7, 3) := by decide +kernel
theorem dX2_plusHours_12 : decode cX2_plusHours 12 = .ok (.iconst 0, 1) := by decide +kernel
theorem dX2_plusHours_13 : decode cX2_plusHours 13 = .ok (.goto 14, 3) := by decide +kernel
theorem dX2_plusHours_16 : decode cX2_plusHours 16 = .ok (.aload_n 0, 1) := by decide +kernel
theorem dX2_plusHours_17 : decode cX2_plusHours 17 = .ok (.iload_n 1, 1) := by decide +kernel
theorem dX2_plusHours_18 : decode cX2_plusHours 18 = .ok (.iload_n 2, 1) := by decide +kernel
theorem dX2_plusHours_19 : decode cX2_plusHours 19 = .ok (.i2l, 1) := by decide +kernel
theorem dX2_plusHours_20 : decode cX2_plusHours 20 = .ok (.iconst 5, 1) := by decide +kernel
theorem dX2_plusHours_21 : decode cX2_plusHours 21 = .ok (.invokestatic 175, 3) := by decide +kernel
theorem dX2_plusHours_24 : decode cX2_plusHours 24 = .ok (.invokevirtual 184, 3) := by decide +kernel
theorem dX2_plusHours_27 : decode cX2_plusHours 27 = .ok (.ireturn, 1) := by decide +kernel
theorem dX2_plusMinutes_0 : decode cX2_plusMinutes 0 = .ok (.aload_n 0, 1) := by decide +kernel
theorem dX2_plusMinutes_1 : decode cX2_plusMinutes 1 = .ok (.iload_n 1, 1) := by decide +kernel
theorem dX2_plusMinutes_2 : decode cX2_plusMinutes 2 = .ok (.invokestatic 157, 3) := by decide +kernel
theorem dX2_plusMinutes_5 : decode cX2_plusMinutes 5 = .ok (.iconst 0, 1) := by decide +kernel
theorem dX2_plusMinutes_6 : decode cX2_plusMinutes 6 = .ok (.invokevirtual 160, 3) := by decide +kernel
theorem dX2_plusMinutes_9 : decode cX2_plusMinutes 9 = .ok (.ifCond .eq 7, 3) := by decide +kernel
theorem dX2_plusMinutes_12 : decode cX2_plusMinutes 12 = .ok (.iconst 0, 1) := by decide +kernel
theorem dX2_plusMinutes_13 : decode cX2_plusMinutes 13 = .ok (.goto 14, 3) := by decide +kernel
theorem dX2_plusMinutes_16 : decode cX2_plusMinutes 16 = .ok (.aload_n 0, 1) := by decide +kernel
theorem dX2_plusMinutes_17 : decode cX2_plusMinutes 17 = .ok (.iload_n 1, 1) := by decide +kernel
theorem dX2_plusMinutes_18 : decode cX2_plusMinutes 18 = .ok (.iload_n 2, 1) := by decide +kernel
theorem dX2_plusMinutes_19 : decode cX2_plusMinutes 19 = .ok (.i2l, 1) := by decide +kernel
theorem dX2_plusMinutes_20 : decode cX2_plusMinutes 20 = .ok (.iconst 4, 1) := by decide +kernel
theorem dX2_plusMinutes_21 : decode cX2_plusMinutes 21 = .ok (.invokestatic 175, 3) := by decide +kernel
theorem dX2_plusMinutes_24 : decode cX2_plusMinutes 24 = .ok (.invokevirtual 184, 3) := by decide +kernel
theorem dX2_plusMinutes_27 : decode cX2_plusMinutes 27 = .ok (.ireturn, 1) := by decide +kernel
theorem dX2_plusSeconds_0 : decode cX2_plusSeconds 0 = .ok (.aload_n 0, 1) := by decide +kernel
theorem dX2_plusSeconds_1 : decode cX2_plusSeconds 1 = .ok (.iload_n 1, 1) := by decide +kernel
theorem dX2_plusSeconds_2 : decode cX2_plusSeconds 2 = .ok (.invokestatic 157, 3) := by decide +kernel
theorem dX2_plusSeconds_5 : decode cX2_plusSeconds 5 = .ok (.iconst 0, 1) := by decide +kernel
theorem dX2_plusSeconds_6 : decode cX2_plusSeconds 6 = .ok (.invokevirtual 160, 3) := by decide +kernel
theorem dX2_plusSeconds_9 : decode cX2_plusSeconds 9 = .ok (.ifCond .eq 7, 3) := by decide +kernel
theorem dX2_plusSeconds_12 : decode cX2_plusSeconds 12 = .ok (.iconst 0, 1) := by decide +kernel
theorem dX2_plusSeconds_13 : decode cX2_plusSeconds 13 = .ok (.goto 13, 3) := by decide +kernel
theorem dX2_plusSeconds_16 : decode cX2_plusSeconds 16 = .ok (.aload_n 0, 1) := by decide +kernel
theorem dX2_plusSeconds_17 : decode cX2_plusSeconds 17 = .ok (.iload_n 1, 1) := by decide +kernel
theorem dX2_plusSeconds_18 : decode cX2_plusSeconds 18 = .ok (.iload_n 2, 1) := by decide +kernel
theorem dX2_plusSeconds_19 : decode cX2_plusSeconds 19 = .ok (.i2l, 1) := by decide +kernel
theorem dX2_plusSeconds_20 : decode cX2_plusSeconds 20 = .ok (.ldc2_w 74, 3) := by decide +kernel
theorem dX2_plusSeconds_23 : decode cX2_plusSeconds 23 = .ok (.invokevirtual 184, 3) := by decide +kernel
theorem dX2_plusSeconds_26 : decode cX2_plusSeconds 26 = .ok (.ireturn, 1) := by decide +kernel
theorem dX2_minusYears_0 : decode cX2_minusYears 0 = .ok (.aload_n 0, 1) := by decide +kernel
theorem dX2_minusYears_1 : decode cX2_minusYears 1 = .ok (.iload_n 1, 1) := by decide +kernel
theorem dX2_minusYears_2 : decode cX2_minusYears 2 = .ok (.invokestatic 157, 3) := by decide +kernel
theorem dX2_minusYears_5 : decode cX2_minusYears 5 = .ok (.ldc 178, 2) := by decide +kernel
theorem dX2_minusYears_7 : decode cX2_minusYears 7 = .ok (.ldc 179, 2) := by decide +kernel
theorem dX2_minusYears_9 : decode cX2_minusYears 9 = .ok (.iload_n 2, 1) := by decide +kernel
theorem dX2_minusYears_10 : decode cX2_minusYears 10 = .ok (.invokestatic 86, 3) := by decide +kernel
theorem dX2_minusYears_13 : decode cX2_minusYears 13 = .ok (.ifCond .ne 7, 3) := by decide +kernel
theorem dX2_minusYears_16 : decode cX2_minusYears 16 = .ok (.iconst 1, 1) := by decide +kernel
theorem dX2_minusYears_17 : decode cX2_minusYears 17 = .ok (.goto 4, 3) := by decide +kernel
theorem dX2_minusYears_20 : decode cX2_minusYears 20 = .ok (.iconst 0, 1) := by decide +kernel
theorem dX2_minusYears_21 : decode cX2_minusYears 21 = .ok (.invokevirtual 160, 3) := by decide +kernel
theorem dX2_minusYears_24 : decode cX2_minusYears 24 = .ok (.ifCond .eq 7, 3) := by decide +kernel
theorem dX2_minusYears_27 : decode cX2_minusYears 27 = .ok (.iconst 0, 1) := by decide +kernel
theorem dX2_minusYears_28 : decode cX2_minusYears 28 = .ok (.goto 14, 3) := by decide +kernel
theorem dX2_minusYears_31 : decode cX2_minusYears 31 = .ok (.aload_n 0, 1) := by decide +kernel
theorem dX2_minusYears_32 : decode cX2_minusYears 32 = .ok (.iload_n 1, 1) := by decide +kernel
theorem dX2_minusYears_33 : decode cX2_minusYears 33 = .ok (.ldc2_w 187, 3) := by decide +kernel
theorem dX2_minusYears_36 : decode cX2_minusYears 36 = .ok (.iload_n 2, 1) := by decide +kernel
theorem dX2_minusYears_37 : decode cX2_minusYears 37 = .ok (.i2l, 1) := by decide +kernel
theorem dX2_minusYears_38 : decode cX2_minusYears 38 = .ok (.lmul, 1) := by decide +kernel
theorem dX2_minusYears_39 : decode cX2_minusYears 39 = .ok (.invokevirtual 180, 3) := by decide +kernel
theorem dX2_minusYears_42 : decode cX2_minusYears 42 = .ok (.ireturn, 1) := by decide +kernel
theorem dX2_minusMonths_0 : decode cX2_minusMonths 0 = .ok (.aload_n 0, 1) := by decide +kernel
theorem dX2_minusMonths_1 : decode cX2_minusMonths 1 = .ok (.iload_n 1, 1) := by decide +kernel
theorem dX2_minusMonths_2 : decode cX2_minusMonths 2 = .ok (.invokestatic 157, 3) := by decide +kernel
theorem dX2_minusMonths_5 : decode cX2_minusMonths 5 = .ok (.iconst 0, 1) := by decide +kernel
theorem dX2_minusMonths_6 : decode cX2_minusMonths 6 = .ok (.invokevirtual 160, 3) := by decide +kernel
theorem dX2_minusMonths_9 : decode cX2_minusMonths 9 = .ok (.ifCond .eq 7, 3) := by decide +kernel
theorem dX2_minusMonths_12 : decode cX2_minusMonths 12 = .ok (.iconst 0, 1) := by decide +kernel
theorem dX2_minusMonths_13 : decode cX2_minusMonths 13 = .ok (.goto 11, 3) := by decide +kernel
theorem dX2_minusMonths_16 : decode cX2_minusMonths 16 = .ok (.aload_n 0, 1) := by decide +kernel
theorem dX2_minusMonths_17 : decode cX2_minusMonths 17 = .ok (.iload_n 1, 1) := by decide +kernel
theorem dX2_minusMonths_18 : decode cX2_minusMonths 18 = .ok (.iload_n 2, 1) := by decide +kernel
theorem dX2_minusMonths_19 : decode cX2_minusMonths 19 = .ok (.i2l, 1) := by decide +kernel
theorem dX2_minusMonths_20 : decode cX2_minusMonths 20 = .ok (.lneg, 1) := by decide +kernel
theorem dX2_minusMonths_21 : decode cX2_minusMonths 21 = .ok (.invokevirtual 180, 3) := by decide +kernel
theorem dX2_minusMonths_24 : decode cX2_minusMonths 24 = .ok (.ireturn, 1) := by decide +kernel
theorem dX2_minusWeeks_0 : decode cX2_minusWeeks 0 = .ok (.aload_n 0, 1) := by decide +kernel
theorem dX2_minusWeeks_1 : decode cX2_minusWeeks 1 = .ok (.iload_n 1, 1) := by decide +kernel
theorem dX2_minusWeeks_2 : decode cX2_minusWeeks 2 = .ok (.invokestatic 157, 3) := by decide +kernel
theorem dX2_minusWeeks_5 : decode cX2_minusWeeks 5 = .ok (.iconst 0, 1) := by decide +kernel
theorem dX2_minusWeeks_6 : decode cX2_minusWeeks 6 = .ok (.invokevirtual 160, 3) := by decide +kernel
theorem dX2_minusWeeks_9 : decode cX2_minusWeeks 9 = .ok (.ifCond .eq 7, 3) := by decide +kernel
theorem dX2_minusWeeks_12 : decode cX2_minusWeeks 12 = .ok (.iconst 0, 1) := by decide +kernel
theorem dX2_minusWeeks_13 : decode cX2_minusWeeks 13 = .ok (.goto 17, 3) := by decide +kernel
theorem dX2_minusWeeks_16 : decode cX2_minusWeeks 16 = .ok (.aload_n 0, 1) := by decide +kernel
theorem dX2_minusWeeks_17 : decode cX2_minusWeeks 17 = .ok (.iload_n 1, 1) := by decide +kernel
theorem dX2_minusWeeks_18 : decode cX2_minusWeeks 18 = .ok (.ldc2_w 189, 3) := by decide +kernel
theorem dX2_minusWeeks_21 : decode cX2_minusWeeks 21 = .ok (.iload_n 2, 1) := by decide +kernel
theorem dX2_minusWeeks_22 : decode cX2_minusWeeks 22 = .ok (.i2l, 1) := by decide +kernel
theorem dX2_minusWeeks_23 : decode cX2_minusWeeks 23 = .ok (.lmul, 1) := by decide +kernel
theorem dX2_minusWeeks_24 : decode cX2_minusWeeks 24 = .ok (.ldc2_w 82, 3) := by decide +kernel
theorem dX2_minusWeeks_27 : decode cX2_minusWeeks 27 = .ok (.invokevirtual 184, 3) := by decide +kernel
theorem dX2_minusWeeks_30 : decode cX2_minusWeeks 30 = .ok (.ireturn, 1) := by decide +kernel
theorem dX2_minusDays_0 : decode cX2_minusDays 0 = .ok (.aload_n 0, 1) := by decide +kernel
theorem dX2_minusDays_1 : decode cX2_minusDays 1 = .ok (.iload_n 1, 1) := by decide +kernel
theorem dX2_minusDays_2 : decode cX2_minusDays 2 = .ok (.invokestatic 157, 3) := by decide +kernel
theorem dX2_minusDays_5 : decode cX2_minusDays 5 = .ok (.iconst 0, 1) := by decide +kernel
theorem dX2_minusDays_6 : decode cX2_minusDays 6 = .ok (.invokevirtual 160, 3) := by decide +kernel
theorem dX2_minusDays_9 : decode cX2_minusDays 9 = .ok (.ifCond .eq 7, 3) := by decide +kernel
theorem dX2_minusDays_12 : decode cX2_minusDays 12 = .ok (.iconst 0, 1) := by decide +kernel
theorem dX2_minusDays_13 : decode cX2_minusDays 13 = .ok (.goto 14, 3) := by decide +kernel
theorem dX2_minusDays_16 : decode cX2_minusDays 16 = .ok (.aload_n 0, 1) := by decide +kernel
theorem dX2_minusDays_17 : decode cX2_minusDays 17 = .ok (.iload_n 1, 1) := by decide +kernel
theorem dX2_minusDays_18 : decode cX2_minusDays 18 = .ok (.iload_n 2, 1) := by decide +kernel
theorem dX2_minusDays_19 : decode cX2_minusDays 19 = .ok (.i2l, 1) := by decide +kernel
theorem dX2_minusDays_20 : decode cX2_minusDays 20 = .ok (.lneg, 1) := by decide +kernel
theorem dX2_minusDays_21 : decode cX2_minusDays 21 = .ok (.ldc2_w 82, 3) := by decide +kernel
theorem dX2_minusDays_24 : decode cX2_minusDays 24 = .ok (.invokevirtual 184, 3) := by decide +kernel
theorem dX2_minusDays_27 : decode cX2_minusDays 27 = .ok (.ireturn, 1) := by decide +kernel
theorem dX2_minusHours_0 : decode cX2_minusHours 0 = .ok (.aload_n 0, 1) := by decide +kernel
theorem dX2_minusHours_1 : decode cX2_minusHours 1 = .ok (.iload_n 1, 1) := by decide +kernel
theorem dX2_minusHours_2 : decode cX2_minusHours 2 = .ok (.invokestatic 157, 3) := by decide +kernel
theorem dX2_minusHours_5 : decode cX2_minusHours 5 = .ok (.iconst 0, 1) := by decide +kernel
theorem dX2_minusHours_6 : decode cX2_minusHours 6 = .ok (.invokevirtual 160, 3) := by decide +kernel
theorem dX2_minusHours_9 : decode cX2_minusHours 9 = .ok (.ifCond .eq 7, 3) := by decide +kernel
theorem dX2_minusHours_12 : decode cX2_minusHours 12 = .ok (.iconst 0, 1) := by decide +kernel
theorem dX2_minusHours_13 : decode cX2_minusHours 13 = .ok (.goto 15, 3) := by decide +kernel
theorem dX2_minusHours_16 : decode cX2_minusHours 16 = .ok (.aload_n 0, 1) := by decide +kernel
theorem dX2_minusHours_17 : decode cX2_minusHours 17 = .ok (.iload_n 1, 1) := by decide +kernel
theorem dX2_minusHours_18 : decode cX2_minusHours 18 = .ok (.iload_n 2, 1) := by decide +kernel
theorem dX2_minusHours_19 : decode cX2_minusHours 19 = .ok (.i2l, 1) := by decide +kernel
theorem dX2_minusHours_20 : decode cX2_minusHours 20 = .ok (.lneg, 1) := by decide +kernel
theorem dX2_minusHours_21 : decode cX2_minusHours 21 = .ok (.iconst 5, 1) := by decide +kernel
theorem dX2_minusHours_22 : decode cX2_minusHours 22 = .ok (.invokestatic 175, 3) := by decide +kernel
theorem dX2_minusHours_25 : decode cX2_minusHours 25 = .ok (.invokevirtual 184, 3) := by decide +kernel
theorem dX2_minusHours_28 : decode cX2_minusHours 28 = .ok (.ireturn, 1) := by decide +kernel
theorem dX2_minusMinutes_0 : decode cX2_minusMinutes 0 = .ok (.aload_n 0, 1) := by decide +kernel
theorem dX2_minusMinutes_1 : decode cX2_minusMinutes 1 = .ok (.iload_n 1, 1) := by decide +kernel
theorem dX2_minusMinutes_2 : decode cX2_minusMinutes 2 = .ok (.invokestatic 157, 3) := by decide +kernel
theorem dX2_minusMinutes_5 : decode cX2_minusMinutes 5 = .ok (.iconst 0, 1) := by decide +kernel
theorem dX2_minusMinutes_6 : decode cX2_minusMinutes 6 = .ok (.invokevirtual 160, 3) := by decide +kernel
theorem dX2_minusMinutes_9 : decode cX2_minusMinutes 9 = .ok (.ifCond .eq 7, 3) := by decide +kernel
theorem dX2_minusMinutes_12 : decode cX2_minusMinutes 12 = .ok (.iconst 0, 1) := by decide +kernel
theorem dX2_minusMinutes_13 : decode cX2_minusMinutes 13 = .ok (.goto 15, 3) := by decide +kernel
theorem dX2_minusMinutes_16 : decode cX2_minusMinutes 16 = .ok (.aload_n 0, 1) := by decide +kernel
theorem dX2_minusMinutes_17 : decode cX2_minusMinutes 17 = .ok (.iload_n 1, 1) := by decide +kernel
theorem dX2_minusMinutes_18 : decode cX2_minusMinutes 18 = .ok (.iload_n 2, 1) := by decide +kernel
theorem dX2_minusMinutes_19 : decode cX2_minusMinutes 19 = .ok (.i2l, 1) := by decide +kernel
theorem dX2_minusMinutes_20 : decode cX2_minusMinutes 20 = .ok (.lneg, 1) := by decide +kernel
theorem dX2_minusMinutes_21 : decode cX2_minusMinutes 21 = .ok (.iconst 4, 1) := by decide +kernel
theorem dX2_minusMinutes_22 : decode cX2_minusMinutes 22 = .ok (.invokestatic 175, 3) := by decide +kernel
theorem dX2_minusMinutes_25 : decode cX2_minusMinutes 25 = .ok (.invokevirtual 184, 3) := by decide +kernel
theorem dX2_minusMinutes_28 : decode cX2_minusMinutes 28 = .ok (.ireturn, 1) := by decide +kernel
theorem dX2_minusSeconds_0 : decode cX2_minusSeconds 0 = .ok (.aload_n 0, 1) := by decide +kernel
theorem dX2_minusSeconds_1 : decode cX2_minusSeconds 1 = .ok (.iload_n 1, 1) := by decide +kernel
theorem dX2_minusSeconds_2 : decode cX2_minusSeconds 2 = .ok (.invokestatic 157, 3) := by decide +kernel
theorem dX2_minusSeconds_5 : decode cX2_minusSeconds 5 = .ok (.iconst 0, 1) := by decide +kernel
theorem dX2_minusSeconds_6 : decode cX2_minusSeconds 6 = .ok (.invokevirtual 160, 3) := by decide +kernel
theorem dX2_minusSeconds_9 : decode cX2_minusSeconds 9 = .ok (.ifCond .eq 7, 3) := by decide +kernel
theorem dX2_minusSeconds_12 : decode cX2_minusSeconds 12 = .ok (.iconst 0, 1) := by decide +kernel
theorem dX2_minusSeconds_13 : decode cX2_minusSeconds 13 = .ok (.goto 14, 3) := by decide +kernel
theorem dX2_minusSeconds_16 : decode cX2_minusSeconds 16 = .ok (.aload_n 0, 1) := by decide +kernel
theorem dX2_minusSeconds_17 : decode cX2_minusSeconds 17 = .ok (.iload_n 1, 1) := by decide +kernel
theorem dX2_minusSeconds_18 : decode cX2_minusSeconds 18 = .ok (.iload_n 2, 1) := by decide +kernel
theorem dX2_minusSeconds_19 : decode cX2_minusSeconds 19 = .ok (.i2l, 1) := by decide +kernel
theorem dX2_minusSeconds_20 : decode cX2_minusSeconds 20 = .ok (.lneg, 1) := by decide +kernel
theorem dX2_minusSeconds_21 : decode cX2_minusSeconds 21 = .ok (.ldc2_w 74, 3) := by decide +kernel
theorem dX2_minusSeconds_24 : decode cX2_minusSeconds 24 = .ok (.invokevirtual 184, 3) := by decide +kernel
theorem dX2_minusSeconds_27 : decode cX2_minusSeconds 27 = .ok (.ireturn, 1) := by decide +kernel
theorem dX2_plusNanos_0 : decode cX2_plusNanos 0 = .ok (.aload_n 0, 1) := by decide +kernel
theorem dX2_plusNanos_1 : decode cX2_plusNanos 1 = .ok (.iload_n 1, 1) := by decide +kernel
theorem dX2_plusNanos_2 : decode cX2_plusNanos 2 = .ok (.invokestatic 157, 3) := by decide +kernel
theorem dX2_plusNanos_5 : decode cX2_plusNanos 5 = .ok (.iconst 0, 1) := by decide +kernel
theorem dX2_plusNanos_6 : decode cX2_plusNanos 6 = .ok (.invokevirtual 160, 3) := by decide +kernel
theorem dX2_plusNanos_9 : decode cX2_plusNanos 9 = .ok (.ifCond .eq 7, 3) := by decide +kernel
theorem dX2_plusNanos_12 : decode cX2_plusNanos 12 = .ok (.iconst 0, 1) := by decide +kernel
theorem dX2_plusNanos_13 : decode cX2_plusNanos 13 = .ok (.goto 18, 3) := by decide +kernel
theorem dX2_plusNanos_16 : decode cX2_plusNanos 16 = .ok (.aload_n 0, 1) := by decide +kernel
theorem dX2_plusNanos_17 : decode cX2_plusNanos 17 = .ok (.iload_n 1, 1) := by decide +kernel
theorem dX2_plusNanos_18 : decode cX2_plusNanos 18 = .ok (.iload_n 2, 1) := by decide +kernel
theorem dX2_plusNanos_19 : decode cX2_plusNanos 19 = .ok (.i2l, 1) := by decide +kernel
theorem dX2_plusNanos_20 : decode cX2_plusNanos 20 = .ok (.ldc2_w 74, 3) := by decide +kernel
theorem dX2_plusNanos_23 : decode cX2_plusNanos 23 = .ok (.lmul, 1) := by decide +kernel
theorem dX2_plusNanos_24 : decode cX2_plusNanos 24 = .ok (.iload_n 3, 1) := by decide +kernel
theorem dX2_plusNanos_25 : decode cX2_plusNanos 25 = .ok (.i2l, 1) := by decide +kernel
theorem dX2_plusNanos_26 : decode cX2_plusNanos 26 = .ok (.ladd, 1) := by decide +kernel
theorem dX2_plusNanos_27 : decode cX2_plusNanos 27 = .ok (.lconst 1, 1) := by decide +kernel
theorem dX2_plusNanos_28 : decode cX2_plusNanos 28 = .ok (.invokevirtual 184, 3) := by decide +kernel
theorem dX2_plusNanos_31 : decode cX2_plusNanos 31 = .ok (.ireturn, 1) := by decide +kernel
theorem dX2_minusNanos_0 : decode cX2_minusNanos 0 = .ok (.aload_n 0, 1) := by decide +kernel
theorem dX2_minusNanos_1 : decode cX2_minusNanos 1 = .ok (.iload_n 1, 1) := by decide +kernel
theorem dX2_minusNanos_2 : decode cX2_minusNanos 2 = .ok (.invokestatic 157, 3) := by decide +kernel
theorem dX2_minusNanos_5 : decode cX2_minusNanos 5 = .ok (.iconst 0, 1) := by decide +kernel
theorem dX2_minusNanos_6 : decode cX2_minusNanos 6 = .ok (.invokevirtual 160, 3) := by decide +kernel
theorem dX2_minusNanos_9 : decode cX2_minusNanos 9 = .ok (.ifCond .eq 7, 3) := by decide +kernel
theorem dX2_minusNanos_12 : decode cX2_minusNanos 12 = .ok (.iconst 0, 1) := by decide +kernel
theorem dX2_minusNanos_13 : decode cX2_minusNanos 13 = .ok (.goto 19, 3) := by decide +kernel
theorem dX2_minusNanos_16 : decode cX2_minusNanos 16 = .ok (.aload_n 0, 1) := by decide +kernel
theorem dX2_minusNanos_17 : decode cX2_minusNanos 17 = .ok (.iload_n 1, 1) := by decide +kernel
theorem dX2_minusNanos_18 : decode cX2_minusNanos 18 = .ok (.iload_n 2, 1) := by decide +kernel
theorem dX2_minusNanos_19 : decode cX2_minusNanos 19 = .ok (.i2l, 1) := by decide +kernel
theorem dX2_minusNanos_20 : decode cX2_minusNanos 20 = .ok (.ldc2_w 74, 3) := by decide +kernel
theorem dX2_minusNanos_23 : decode cX2_minusNanos 23 = .ok (.lmul, 1) := by decide +kernel
theorem dX2_minusNanos_24 : decode cX2_minusNanos 24 = .ok (.iload_n 3, 1) := by decide +kernel
theorem dX2_minusNanos_25 : decode cX2_minusNanos 25 = .ok (.i2l, 1) := by decide +kernel
theorem dX2_minusNanos_26 : decode cX2_minusNanos 26 = .ok (.ladd, 1) := by decide +kernel
theorem dX2_minusNanos_27 : decode cX2_minusNanos 27 = .ok (.lneg, 1) := by decide +kernel
theorem dX2_minusNanos_28 : decode cX2_minusNanos 28 = .ok (.lconst 1, 1) := by decide +kernel
theorem dX2_minusNanos_29 : decode cX2_minusNanos 29 = .ok (.invokevirtual 184, 3) := by decide +kernel
theorem dX2_minusNanos_32 : decode cX2_minusNanos 32 = .ok (.ireturn, 1) := by decide +kernel
theorem dX2_plusUnits_0 : decode cX2_plusUnits 0 = .ok (.aload_n 0, 1) := by decide +kernel
theorem dX2_plusUnits_1 : decode cX2_plusUnits 1 = .ok (.iload_n 1, 1) := by decide +kernel
theorem dX2_plusUnits_2 : decode cX2_plusUnits 2 = .ok (.invokestatic 157, 3) := by decide +kernel
theorem dX2_plusUnits_5 : decode cX2_plusUnits 5 = .ok (.ldc 191, 2) := by decide +kernel
theorem dX2_plusUnits_7 : decode cX2_plusUnits 7 = .ok (.ldc 192, 2) := by decide +kernel
theorem dX2_plusUnits_9 : decode cX2_plusUnits 9 = .ok (.iload_n 2, 1) := by decide +kernel
theorem dX2_plusUnits_10 : decode cX2_plusUnits 10 = .ok (.invokestatic 86, 3) := by decide +kernel
theorem dX2_plusUnits_13 : decode cX2_plusUnits 13 = .ok (.ifCond .eq 13, 3) := by decide +kernel
theorem dX2_plusUnits_16 : decode cX2_plusUnits 16 = .ok (.iconst 0, 1) := by decide +kernel
theorem dX2_plusUnits_17 : decode cX2_plusUnits 17 = .ok (.bipush 13, 2) := by decide +kernel
theorem dX2_plusUnits_19 : decode cX2_plusUnits 19 = .ok (.iload_n 3, 1) := by decide +kernel
theorem dX2_plusUnits_20 : decode cX2_plusUnits 20 = .ok (.invokestatic 86, 3) := by decide +kernel
theorem dX2_plusUnits_23 : decode cX2_plusUnits 23 = .ok (.ifCond .ne 7, 3) := by decide +kernel
theorem dX2_plusUnits_26 : decode cX2_plusUnits 26 = .ok (.iconst 1, 1) := by decide +kernel
theorem dX2_plusUnits_27 : decode cX2_plusUnits 27 = .ok (.goto 4, 3) := by decide +kernel
theorem dX2_plusUnits_30 : decode cX2_plusUnits 30 = .ok (.iconst 0, 1) := by decide +kernel
theorem dX2_plusUnits_31 : decode cX2_plusUnits 31 = .ok (.invokevirtual 160, 3) := by decide +kernel
theorem dX2_plusUnits_34 : decode cX2_plusUnits 34 = .ok (.ifCond .eq 5, 3) := by decide +kernel
theorem dX2_plusUnits_37 : decode cX2_plusUnits 37 = .ok (.iconst 0, 1) := by decide +kernel
theorem dX2_plusUnits_38 : decode cX2_plusUnits 38 = .ok (.ireturn, 1) := by decide +kernel
theorem dX2_plusUnits_39 : decode cX2_plusUnits 39 = .ok (.iload_n 3, 1) := by decide +kernel
theorem dX2_plusUnits_40 : decode cX2_plusUnits 40 = .ok (.bipush 8, 2) := by decide +kernel
theorem dX2_plusUnits_42 : decode cX2_plusUnits 42 = .ok (.if_icmp .le 17, 3) := by decide +kernel
theorem dX2_plusUnits_45 : decode cX2_plusUnits 45 = .ok (.aload_n 0, 1) := by decide +kernel
theorem dX2_plusUnits_46 : decode cX2_plusUnits 46 = .ok (.iload_n 1, 1) := by decide +kernel
theorem dX2_plusUnits_47 : decode cX2_plusUnits 47 = .ok (.iload_n 2, 1) := by decide +kernel
theorem dX2_plusUnits_48 : decode cX2_plusUnits 48 = .ok (.i2l, 1) := by decide +kernel
theorem dX2_plusUnits_49 : decode cX2_plusUnits 49 = .ok (.iload_n 3, 1) := by decide +kernel
theorem dX2_plusUnits_50 : decode cX2_plusUnits 50 = .ok (.invokestatic 193, 3) := by decide +kernel
theorem dX2_plusUnits_53 : decode cX2_plusUnits 53 = .ok (.i2l, 1) := by decide +kernel
theorem dX2_plusUnits_54 : decode cX2_plusUnits 54 = .ok (.lmul, 1) := by decide +kernel
theorem dX2_plusUnits_55 : decode cX2_plusUnits 55 = .ok (.invokevirtual 180, 3) := by decide +kernel
theorem dX2_plusUnits_58 : decode cX2_plusUnits 58 = .ok (.ireturn, 1) := by decide +kernel
theorem dX2_plusUnits_59 : decode cX2_plusUnits 59 = .ok (.iload_n 3, 1) := by decide +kernel
theorem dX2_plusUnits_60 : decode cX2_plusUnits 60 = .ok (.bipush 8, 2) := by decide +kernel
theorem dX2_plusUnits_62 : decode cX2_plusUnits 62 = .ok (.if_icmp .ne 20, 3) := by decide +kernel
theorem dX2_plusUnits_65 : decode cX2_plusUnits 65 = .ok (.aload_n 0, 1) := by decide +kernel
theorem dX2_plusUnits_66 : decode cX2_plusUnits 66 = .ok (.iload_n 1, 1) := by decide +kernel
theorem dX2_plusUnits_67 : decode cX2_plusUnits 67 = .ok (.ldc2_w 68, 3) := by decide +kernel
theorem dX2_plusUnits_70 : decode cX2_plusUnits 70 = .ok (.iload_n 2, 1) := by decide +kernel
theorem dX2_plusUnits_71 : decode cX2_plusUnits 71 = .ok (.i2l, 1) := by decide +kernel
theorem dX2_plusUnits_72 : decode cX2_plusUnits 72 = .ok (.lmul, 1) := by decide +kernel
theorem dX2_plusUnits_73 : decode cX2_plusUnits 73 = .ok (.ldc2_w 82, 3) := by decide +kernel
theorem dX2_plusUnits_76 : decode cX2_plusUnits 76 = .ok (.invokevirtual 184, 3) := by decide +kernel
theorem dX2_plusUnits_79 : decode cX2_plusUnits 79 = .ok (.goto 14, 3) := by decide +kernel
theorem dX2_plusUnits_82 : decode cX2_plusUnits 82 = .ok (.aload_n 0, 1) := by decide +kernel
theorem dX2_plusUnits_83 : decode cX2_plusUnits 83 = .ok (.iload_n 1, 1) := by decide +kernel
theorem dX2_plusUnits_84 : decode cX2_plusUnits 84 = .ok (.iload_n 2, 1) := by decide +kernel
theorem dX2_plusUnits_85 : decode cX2_plusUnits 85 = .ok (.i2l, 1) := by decide +kernel
theorem dX2_plusUnits_86 : decode cX2_plusUnits 86 = .ok (.iload_n 3, 1) := by decide +kernel
theorem dX2_plusUnits_87 : decode cX2_plusUnits 87 = .ok (.invokestatic 175, 3) := by decide +kernel
theorem dX2_plusUnits_90 : decode cX2_plusUnits 90 = .ok (.invokevirtual 184, 3) := by decide +kernel
theorem dX2_plusUnits_93 : decode cX2_plusUnits 93 = .ok (.ireturn, 1) := by decide +kernel
theorem dX2_year_0 : decode cX2_year 0 = .ok (.aload_n 0, 1) := by decide +kernel
theorem dX2_year_1 : decode cX2_year 1 = .ok (.iload_n 1, 1) := by decide +kernel
theorem dX2_year_2 : decode cX2_year 2 = .ok (.invokestatic 157, 3) := by decide +kernel
theorem dX2_year_5 : decode cX2_year 5 = .ok (.iconst 0, 1) := by decide +kernel
theorem dX2_year_6 : decode cX2_year 6 = .ok (.invokevirtual 160, 3) := by decide +kernel
theorem dX2_year_9 : decode cX2_year 9 = .ok (.ifCond .eq 7, 3) := by decide +kernel
theorem dX2_year_12 : decode cX2_year 12 = .ok (.iconst 0, 1) := by decide +kernel
theorem dX2_year_13 : decode cX2_year 13 = .ok (.goto 9, 3) := by decide +kernel
theorem dX2_year_16 : decode cX2_year 16 = .ok (.aload_n 0, 1) := by decide +kernel
theorem dX2_year_17 : decode cX2_year 17 = .ok (.getfield 7, 3) := by decide +kernel
theorem dX2_year_20 : decode cX2_year 20 = .ok (.iload_n 1, 1) := by decide +kernel
theorem dX2_year_21 : decode cX2_year 21 = .ok (.iaload, 1) := by decide +kernel
theorem dX2_year_22 : decode cX2_year 22 = .ok (.ireturn, 1) := by decide +kernel
theorem dX2_month_0 : decode cX2_month 0 = .ok (.aload_n 0, 1) := by decide +kernel
theorem dX2_month_1 : decode cX2_month 1 = .ok (.iload_n 1, 1) := by decide +kernel
theorem dX2_month_2 : decode cX2_month 2 = .ok (.invokestatic 157, 3) := by decide +kernel
theorem dX2_month_5 : decode cX2_month 5 = .ok (.iconst 0, 1) := by decide +kernel
theorem dX2_month_6 : decode cX2_month 6 = .ok (.invokevirtual 160, 3) := by decide +kernel
theorem dX2_month_9 : decode cX2_month 9 = .ok (.ifCond .eq 7, 3) := by decide +kernel
theorem dX2_month_12 : decode cX2_month 12 = .ok (.iconst 0, 1) := by decide +kernel
theorem dX2_month_13 : decode cX2_month 13 = .ok (.goto 9, 3) := by decide +kernel
theorem dX2_month_16 : decode cX2_month 16 = .ok (.aload_n 0, 1) := by decide +kernel
theorem dX2_month_17 : decode cX2_month 17 = .ok (.getfield 13, 3) := by decide +kernel
theorem dX2_month_20 : decode cX2_month 20 = .ok (.iload_n 1, 1) := by decide +kernel
theorem dX2_month_21 : decode cX2_month 21 = .ok (.iaload, 1) := by decide +kernel
theorem dX2_month_22 : decode cX2_month 22 = .ok (.ireturn, 1) := by decide +kernel
theorem dX2_dayOfMonth_0 : decode cX2_dayOfMonth 0 = .ok (.aload_n 0, 1) := by decide +kernel
theorem dX2_dayOfMonth_1 : decode cX2_dayOfMonth 1 = .ok (.iload_n 1, 1) := by decide +kernel
theorem dX2_dayOfMonth_2 : decode cX2_dayOfMonth 2 = .ok (.invokestatic 157, 3) := by decide +kernel
theorem dX2_dayOfMonth_5 : decode cX2_dayOfMonth 5 = .ok (.iconst 0, 1) := by decide +kernel
theorem dX2_dayOfMonth_6 : decode cX2_dayOfMonth 6 = .ok (.invokevirtual 160, 3) := by decide +kernel
theorem dX2_dayOfMonth_9 : decode cX2_dayOfMonth 9 = .ok (.ifCond .eq 7, 3) := by decide +kernel
theorem dX2_dayOfMonth_12 : decode cX2_dayOfMonth 12 = .ok (.iconst 0, 1) := by decide +kernel
theorem dX2_dayOfMonth_13 : decode cX2_dayOfMonth 13 = .ok (.goto 9, 3) := by decide +kernel
theorem dX2_dayOfMonth_16 : decode cX2_dayOfMonth 16 = .ok (.aload_n 0, 1) := by decide +kernel
theorem dX2_dayOfMonth_17 : decode cX2_dayOfMonth 17 = .ok (.getfield 16, 3) := by decide +kernel
theorem dX2_dayOfMonth_20 : decode cX2_dayOfMonth 20 = .ok (.iload_n 1, 1) := by decide +kernel
theorem dX2_dayOfMonth_21 : decode cX2_dayOfMonth 21 = .ok (.iaload, 1) := by decide +kernel
theorem dX2_dayOfMonth_22 : decode cX2_dayOfMonth 22 = .ok (.ireturn, 1) := by decide +kernel
theorem dX2_inYearNow_0 : decode cX2_inYearNow 0 = .ok (.aload_n 0, 1) := by decide +kernel
theorem dX2_inYearNow_1 : decode cX2_inYearNow 1 = .ok (.getfield 7, 3) := by decide +kernel
theorem dX2_inYearNow_4 : decode cX2_inYearNow 4 = .ok (.iload_n 1, 1) := by decide +kernel
theorem dX2_inYearNow_5 : decode cX2_inYearNow 5 = .ok (.iaload, 1) := by decide +kernel
theorem dX2_inYearNow_6 : decode cX2_inYearNow 6 = .ok (.aload_n 0, 1) := by decide +kernel
theorem dX2_inYearNow_7 : decode cX2_inYearNow 7 = .ok (.getfield 13, 3) := by decide +kernel
theorem dX2_inYearNow_10 : decode cX2_inYearNow 10 = .ok (.iload_n 1, 1) := by decide +kernel
theorem dX2_inYearNow_11 : decode cX2_inYearNow 11 = .ok (.iaload, 1) := by decide +kernel
theorem dX2_inYearNow_12 : decode cX2_inYearNow 12 = .ok (.aload_n 0, 1) := by decide +kernel
theorem dX2_inYearNow_13 : decode cX2_inYearNow 13 = .ok (.getfield 16, 3) := by decide +kernel
theorem dX2_inYearNow_16 : decode cX2_inYearNow 16 = .ok (.iload_n 1, 1) := by decide +kernel
theorem dX2_inYearNow_17 : decode cX2_inYearNow 17 = .ok (.iaload, 1) := by decide +kernel
theorem dX2_inYearNow_18 : decode cX2_inYearNow 18 = .ok (.invokestatic 59, 3) := by decide +kernel
theorem dX2_inYearNow_21 : decode cX2_inYearNow 21 = .ok (.ireturn, 1) := by decide +kernel
theorem dX2_dayOfYear_0 : decode cX2_dayOfYear 0 = .ok (.aload_n 0, 1) := by decide +kernel
theorem dX2_dayOfYear_1 : decode cX2_dayOfYear 1 = .ok (.iload_n 1, 1) := by decide +kernel
theorem dX2_dayOfYear_2 : decode cX2_dayOfYear 2 = .ok (.invokestatic 157, 3) := by decide +kernel
theorem dX2_dayOfYear_5 : decode cX2_dayOfYear 5 = .ok (.iconst 0, 1) := by decide +kernel
theorem dX2_dayOfYear_6 : decode cX2_dayOfYear 6 = .ok (.invokevirtual 160, 3) := by decide +kernel
theorem dX2_dayOfYear_9 : decode cX2_dayOfYear 9 = .ok (.ifCond .eq 7, 3) := by decide +kernel
theorem dX2_dayOfYear_12 : decode cX2_dayOfYear 12 = .ok (.iconst 0, 1) := by decide +kernel
theorem dX2_dayOfYear_13 : decode cX2_dayOfYear 13 = .ok (.goto 8, 3) := by decide +kernel
theorem dX2_dayOfYear_16 : decode cX2_dayOfYear 16 = .ok (.aload_n 0, 1) := by decide +kernel
theorem dX2_dayOfYear_17 : decode cX2_dayOfYear 17 = .ok (.iload_n 1, 1) := by decide +kernel
theorem dX2_dayOfYear_18 : decode cX2_dayOfYear 18 = .ok (.invokevirtual 196, 3) := by decide +kernel
theorem dX2_dayOfYear_21 : decode cX2_dayOfYear 21 = .ok (.ireturn, 1) := by decide +kernel
theorem dX2_dayOfWeek_0 : decode cX2_dayOfWeek 0 = .ok (.aload_n 0, 1) := by decide +kernel
theorem dX2_dayOfWeek_1 : decode cX2_dayOfWeek 1 = .ok (.iload_n 1, 1) := by decide +kernel
theorem dX2_dayOfWeek_2 : decode cX2_dayOfWeek 2 = .ok (.invokestatic 157, 3) := by decide +kernel
theorem dX2_dayOfWeek_5 : decode cX2_dayOfWeek 5 = .ok (.iconst 0, 1) := by decide +kernel
theorem dX2_dayOfWeek_6 : decode cX2_dayOfWeek 6 = .ok (.invokevirtual 160, 3) := by decide +kernel
theorem dX2_dayOfWeek_9 : decode cX2_dayOfWeek 9 = .ok (.ifCond .eq 7, 3) := by decide +kernel
theorem dX2_dayOfWeek_12 : decode cX2_dayOfWeek 12 = .ok (.iconst 0, 1) := by decide +kernel
theorem dX2_dayOfWeek_13 : decode cX2_dayOfWeek 13 = .ok (.goto 8, 3) := by decide +kernel
theorem dX2_dayOfWeek_16 : decode cX2_dayOfWeek 16 = .ok (.aload_n 0, 1) := by decide +kernel
theorem dX2_dayOfWeek_17 : decode cX2_dayOfWeek 17 = .ok (.iload_n 1, 1) := by decide +kernel
theorem dX2_dayOfWeek_18 : decode cX2_dayOfWeek 18 = .ok (.invokevirtual 108, 3) := by decide +kernel
theorem dX2_dayOfWeek_21 : decode cX2_dayOfWeek 21 = .ok (.ireturn, 1) := by decide +kernel
theorem dX2_part_0 : decode cX2_part 0 = .ok (.aload_n 0, 1) := by decide +kernel
theorem dX2_part_1 : decode cX2_part 1 = .ok (.getfield 19, 3) := by decide +kernel
theorem dX2_part_4 : decode cX2_part 4 = .ok (.iload_n 1, 1) := by decide +kernel
theorem dX2_part_5 : decode cX2_part 5 = .ok (.laload, 1) := by decide +kernel
theorem dX2_part_6 : decode cX2_part 6 = .ok (.lload_n 2, 1) := by decide +kernel
theorem dX2_part_7 : decode cX2_part 7 = .ok (.ldiv, 1) := by decide +kernel
theorem dX2_part_8 : decode cX2_part 8 = .ok (.lload 4, 2) := by decide +kernel
theorem dX2_part_10 : decode cX2_part 10 = .ok (.lrem, 1) := by decide +kernel
theorem dX2_part_11 : decode cX2_part 11 = .ok (.l2i, 1) := by decide +kernel
theorem dX2_part_12 : decode cX2_part 12 = .ok (.ireturn, 1) := by decide +kernel
theorem dX2_hour_0 : decode cX2_hour 0 = .ok (.aload_n 0, 1) := by decide +kernel
theorem dX2_hour_1 : decode cX2_hour 1 = .ok (.iload_n 1, 1) := by decide +kernel
theorem dX2_hour_2 : decode cX2_hour 2 = .ok (.invokestatic 157, 3) := by decide +kernel
theorem dX2_hour_5 : decode cX2_hour 5 = .ok (.iconst 0, 1) := by decide +kernel
theorem dX2_hour_6 : decode cX2_hour 6 = .ok (.invokevirtual 160, 3) := by decide +kernel
theorem dX2_hour_9 : decode cX2_hour 9 = .ok (.ifCond .eq 7, 3) := by decide +kernel
theorem dX2_hour_12 : decode cX2_hour 12 = .ok (.iconst 0, 1) := by decide +kernel
theorem dX2_hour_13 : decode cX2_hour 13 = .ok (.goto 15, 3) := by decide +kernel
theorem dX2_hour_16 : decode cX2_hour 16 = .ok (.aload_n 0, 1) := by decide +kernel
theorem dX2_hour_17 : decode cX2_hour 17 = .ok (.iload_n 1, 1) := by decide +kernel
theorem dX2_hour_18 : decode cX2_hour 18 = .ok (.iconst 5, 1) := by decide +kernel
theorem dX2_hour_19 : decode cX2_hour 19 = .ok (.invokestatic 175, 3) := by decide +kernel
theorem dX2_hour_22 : decode cX2_hour 22 = .ok (.ldc2_w 169, 3) := by decide +kernel
theorem dX2_hour_25 : decode cX2_hour 25 = .ok (.invokevirtual 199, 3) := by decide +kernel
theorem dX2_hour_28 : decode cX2_hour 28 = .ok (.ireturn, 1) := by decide +kernel
theorem dX2_minute_0 : decode cX2_minute 0 = .ok (.aload_n 0, 1) := by decide +kernel
theorem dX2_minute_1 : decode cX2_minute 1 = .ok (.iload_n 1, 1) := by decide +kernel
theorem dX2_minute_2 : decode cX2_minute 2 = .ok (.invokestatic 157, 3) := by decide +kernel
theorem dX2_minute_5 : decode cX2_minute 5 = .ok (.iconst 0, 1) := by decide +kernel
theorem dX2_minute_6 : decode cX2_minute 6 = .ok (.invokevirtual 160, 3) := by decide +kernel
theorem dX2_minute_9 : decode cX2_minute 9 = .ok (.ifCond .eq 7, 3) := by decide +kernel
theorem dX2_minute_12 : decode cX2_minute 12 = .ok (.iconst 0, 1) := by decide +kernel
theorem dX2_minute_13 : decode cX2_minute 13 = .ok (.goto 15, 3) := by decide +kernel
theorem dX2_minute_16 : decode cX2_minute 16 = .ok (.aload_n 0, 1) := by decide +kernel
theorem dX2_minute_17 : decode cX2_minute 17 = .ok (.iload_n 1, 1) := by decide +kernel
theorem dX2_minute_18 : decode cX2_minute 18 = .ok (.iconst 4, 1) := by decide +kernel
theorem dX2_minute_19 : decode cX2_minute 19 = .ok (.invokestatic 175, 3) := by decide +kernel
theorem dX2_minute_22 : decode cX2_minute 22 = .ok (.ldc2_w 155, 3) := by decide +kernel
theorem dX2_minute_25 : decode cX2_minute 25 = .ok (.invokevirtual 199, 3) := by decide +kernel
theorem dX2_minute_28 : decode cX2_minute 28 = .ok (.ireturn, 1) := by decide +kernel
theorem dX2_second_0 : decode cX2_second 0 = .ok (.aload_n 0, 1) := by decide +kernel
theorem dX2_second_1 : decode cX2_second 1 = .ok (.iload_n 1, 1) := by decide +kernel
theorem dX2_second_2 : decode cX2_second 2 = .ok (.invokestatic 157, 3) := by decide +kernel
theorem dX2_second_5 : decode cX2_second 5 = .ok (.iconst 0, 1) := by decide +kernel
theorem dX2_second_6 : decode cX2_second 6 = .ok (.invokevirtual 160, 3) := by decide +kernel
theorem dX2_second_9 : decode cX2_second 9 = .ok (.ifCond .eq 7, 3) := by decide +kernel
theorem dX2_second_12 : decode cX2_second 12 = .ok (.iconst 0, 1) := by decide +kernel
theorem dX2_second_13 : decode cX2_second 13 = .ok (.goto 14, 3) := by decide +kernel
theorem dX2_second_16 : decode cX2_second 16 = .ok (.aload_n 0, 1) := by decide +kernel
theorem dX2_second_17 : decode cX2_second 17 = .ok (.iload_n 1, 1) := by decide +kernel
theorem dX2_second_18 : decode cX2_second 18 = .ok (.ldc2_w 74, 3) := by decide +kernel
theorem dX2_second_21 : decode cX2_second 21 = .ok (.ldc2_w 155, 3) := by decide +kernel
theorem dX2_second_24 : decode cX2_second 24 = .ok (.invokevirtual 199, 3) := by decide +kernel
theorem dX2_second_27 : decode cX2_second 27 = .ok (.ireturn, 1) := by decide +kernel
theorem dX2_nano_0 : decode cX2_nano 0 = .ok (.aload_n 0, 1) := by decide +kernel
theorem dX2_nano_1 : decode cX2_nano 1 = .ok (.iload_n 1, 1) := by decide +kernel
theorem dX2_nano_2 : decode cX2_nano 2 = .ok (.invokestatic 157, 3) := by decide +kernel
theorem dX2_nano_5 : decode cX2_nano 5 = .ok (.iconst 0, 1) := by decide +kernel
theorem dX2_nano_6 : decode cX2_nano 6 = .ok (.invokevirtual 160, 3) := by decide +kernel
theorem dX2_nano_9 : decode cX2_nano 9 = .ok (.ifCond .eq 7, 3) := by decide +kernel
theorem dX2_nano_12 : decode cX2_nano 12 = .ok (.iconst 0, 1) := by decide +kernel
theorem dX2_nano_13 : decode cX2_nano 13 = .ok (.goto 12, 3) := by decide +kernel
theorem dX2_nano_16 : decode cX2_nano 16 = .ok (.aload_n 0, 1) := by decide +kernel
theorem dX2_nano_17 : decode cX2_nano 17 = .ok (.iload_n 1, 1) := by decide +kernel
theorem dX2_nano_18 : decode cX2_nano 18 = .ok (.lconst 1, 1) := by decide +kernel
theorem dX2_nano_19 : decode cX2_nano 19 = .ok (.ldc2_w 74, 3) := by decide +kernel
theorem dX2_nano_22 : decode cX2_nano 22 = .ok (.invokevirtual 199, 3) := by decide +kernel
theorem dX2_nano_25 : decode cX2_nano 25 = .ok (.ireturn, 1) := by decide +kernel
theorem dX2_day_0 : decode cX2_day 0 = .ok (.aload_n 0, 1) := by decide +kernel
theorem dX2_day_1 : decode cX2_day 1 = .ok (.iload_n 1, 1) := by decide +kernel
theorem dX2_day_2 : decode cX2_day 2 = .ok (.invokestatic 157, 3) := by decide +kernel
theorem dX2_day_5 : decode cX2_day 5 = .ok (.iconst 0, 1) := by decide +kernel
theorem dX2_day_6 : decode cX2_day 6 = .ok (.invokevirtual 160, 3) := by decide +kernel
theorem dX2_day_9 : decode cX2_day 9 = .ok (.ifCond .eq 7, 3) := by decide +kernel
theorem dX2_day_12 : decode cX2_day 12 = .ok (.iconst 0, 1) := by decide +kernel
theorem dX2_day_13 : decode cX2_day 13 = .ok (.goto 9, 3) := by decide +kernel
theorem dX2_day_16 : decode cX2_day 16 = .ok (.aload_n 0, 1) := by decide +kernel
theorem dX2_day_17 : decode cX2_day 17 = .ok (.iload_n 1, 1) := by decide +kernel
theorem dX2_day_18 : decode cX2_day 18 = .ok (.invokevirtual 97, 3) := by decide +kernel
theorem dX2_day_21 : decode cX2_day 21 = .ok (.l2i, 1) := by decide +kernel
theorem dX2_day_22 : decode cX2_day 22 = .ok (.ireturn, 1) := by decide +kernel
theorem dX2_secondOfDay_0 : decode cX2_secondOfDay 0 = .ok (.aload_n 0, 1) := by decide +kernel
theorem dX2_secondOfDay_1 : decode cX2_secondOfDay 1 = .ok (.iload_n 1, 1) := by decide +kernel
theorem dX2_secondOfDay_2 : decode cX2_secondOfDay 2 = .ok (.invokestatic 157, 3) := by decide +kernel
theorem dX2_secondOfDay_5 : decode cX2_secondOfDay 5 = .ok (.iconst 0, 1) := by decide +kernel
theorem dX2_secondOfDay_6 : decode cX2_secondOfDay 6 = .ok (.invokevirtual 160, 3) := by decide +kernel
theorem dX2_secondOfDay_9 : decode cX2_secondOfDay 9 = .ok (.ifCond .eq 7, 3) := by decide +kernel
theorem dX2_secondOfDay_12 : decode cX2_secondOfDay 12 = .ok (.iconst 0, 1) := by decide +kernel
theorem dX2_secondOfDay_13 : decode cX2_secondOfDay 13 = .ok (.goto 14, 3) := by decide +kernel
theorem dX2_secondOfDay_16 : decode cX2_secondOfDay 16 = .ok (.aload_n 0, 1) := by decide +kernel
theorem dX2_secondOfDay_17 : decode cX2_secondOfDay 17 = .ok (.iload_n 1, 1) := by decide +kernel
theorem dX2_secondOfDay_18 : decode cX2_secondOfDay 18 = .ok (.ldc2_w 74, 3) := by decide +kernel
theorem dX2_secondOfDay_21 : decode cX2_secondOfDay 21 = .ok (.ldc2_w 202, 3) := by decide +kernel
theorem dX2_secondOfDay_24 : decode cX2_secondOfDay 24 = .ok (.invokevirtual 199, 3) := by decide +kernel
theorem dX2_secondOfDay_27 : decode cX2_secondOfDay 27 = .ok (.ireturn, 1) := by decide +kernel
theorem dX2_lengthOfMonth_0 : decode cX2_lengthOfMonth 0 = .ok (.aload_n 0, 1) := by decide +kernel
theorem dX2_lengthOfMonth_1 : decode cX2_lengthOfMonth 1 = .ok (.iload_n 1, 1) := by decide +kernel
theorem dX2_lengthOfMonth_2 : decode cX2_lengthOfMonth 2 = .ok (.invokestatic 157, 3) := by decide +kernel
theorem dX2_lengthOfMonth_5 : decode cX2_lengthOfMonth 5 = .ok (.iconst 0, 1) := by decide +kernel
theorem dX2_lengthOfMonth_6 : decode cX2_lengthOfMonth 6 = .ok (.invokevirtual 160, 3) := by decide +kernel
theorem dX2_lengthOfMonth_9 : decode cX2_lengthOfMonth 9 = .ok (.ifCond .eq 7, 3) := by decide +kernel
theorem dX2_lengthOfMonth_12 : decode cX2_lengthOfMonth 12 = .ok (.iconst 0, 1) := by decide +kernel
theorem dX2_lengthOfMonth_13 : decode cX2_lengthOfMonth 13 = .ok (.goto 18, 3) := by decide +kernel
theorem dX2_lengthOfMonth_16 : decode cX2_lengthOfMonth 16 = .ok (.aload_n 0, 1) := by decide +kernel
theorem dX2_lengthOfMonth_17 : decode cX2_lengthOfMonth 17 = .ok (.getfield 7, 3) := by decide +kernel
theorem dX2_lengthOfMonth_20 : decode cX2_lengthOfMonth 20 = .ok (.iload_n 1, 1) := by decide +kernel
theorem dX2_lengthOfMonth_21 : decode cX2_lengthOfMonth 21 = .ok (.iaload, 1) := by decide +kernel
theorem dX2_lengthOfMonth_22 : decode cX2_lengthOfMonth 22 = .ok (.aload_n 0, 1) := by decide +kernel
theorem dX2_lengthOfMonth_23 : decode cX2_lengthOfMonth 23 = .ok (.getfield 13, 3) := by decide +kernel
theorem dX2_lengthOfMonth_26 : decode cX2_lengthOfMonth 26 = .ok (.iload_n 1, 1) := by decide +kernel
theorem dX2_lengthOfMonth_27 : decode cX2_lengthOfMonth 27 = .ok (.iaload, 1) := by decide +kernel
theorem dX2_lengthOfMonth_28 : decode cX2_lengthOfMonth 28 = .ok (.invokestatic 49, 3) := by decide +kernel
theorem dX2_lengthOfMonth_31 : decode cX2_lengthOfMonth 31 = .ok (.ireturn, 1) := by decide +kernel
theorem dX2_nanoOfDay_0 : decode cX2_nanoOfDay 0 = .ok (.aload_n 0, 1) := by decide +kernel
theorem dX2_nanoOfDay_1 : decode cX2_nanoOfDay 1 = .ok (.iload_n 1, 1) := by decide +kernel
theorem dX2_nanoOfDay_2 : decode cX2_nanoOfDay 2 = .ok (.invokestatic 157, 3) := by decide +kernel
theorem dX2_nanoOfDay_5 : decode cX2_nanoOfDay 5 = .ok (.iconst 0, 1) := by decide +kernel
theorem dX2_nanoOfDay_6 : decode cX2_nanoOfDay 6 = .ok (.invokevirtual 160, 3) := by decide +kernel
theorem dX2_nanoOfDay_9 : decode cX2_nanoOfDay 9 = .ok (.ifCond .eq 8, 3) := by decide +kernel
theorem dX2_nanoOfDay_12 : decode cX2_nanoOfDay 12 = .ok (.ldc 204, 2) := by decide +kernel
theorem dX2_nanoOfDay_14 : decode cX2_nanoOfDay 14 = .ok (.goto 27, 3) := by decide +kernel
theorem dX2_nanoOfDay_17 : decode cX2_nanoOfDay 17 = .ok (.new 206, 3) := by decide +kernel
theorem dX2_nanoOfDay_20 : decode cX2_nanoOfDay 20 = .ok (.dup, 1) := by decide +kernel
theorem dX2_nanoOfDay_21 : decode cX2_nanoOfDay 21 = .ok (.invokespecial 208, 3) := by decide +kernel
theorem dX2_nanoOfDay_24 : decode cX2_nanoOfDay 24 = .ok (.ldc 204, 2) := by decide +kernel
theorem dX2_nanoOfDay_26 : decode cX2_nanoOfDay 26 = .ok (.invokevirtual 209, 3) := by decide +kernel
theorem dX2_nanoOfDay_29 : decode cX2_nanoOfDay 29 = .ok (.aload_n 0, 1) := by decide +kernel
theorem dX2_nanoOfDay_30 : decode cX2_nanoOfDay 30 = .ok (.getfield 19, 3) := by decide +kernel
theorem dX2_nanoOfDay_33 : decode cX2_nanoOfDay 33 = .ok (.iload_n 1, 1) := by decide +kernel
theorem dX2_nanoOfDay_34 : decode cX2_nanoOfDay 34 = .ok (.laload, 1) := by decide +kernel
theorem dX2_nanoOfDay_35 : decode cX2_nanoOfDay 35 = .ok (.invokevirtual 213, 3) := by decide +kernel
theorem dX2_nanoOfDay_38 : decode cX2_nanoOfDay 38 = .ok (.invokevirtual 216, 3) := by decide +kernel
theorem dX2_nanoOfDay_41 : decode cX2_nanoOfDay 41 = .ok (.areturn, 1) := by decide +kernel
theorem dX2_isLeap_0 : decode cX2_isLeap 0 = .ok (.aload_n 0, 1) := by decide +kernel
theorem dX2_isLeap_1 : decode cX2_isLeap 1 = .ok (.iload_n 1, 1) := by decide +kernel
theorem dX2_isLeap_2 : decode cX2_isLeap 2 = .ok (.invokestatic 157, 3) := by decide +kernel
theorem dX2_isLeap_5 : decode cX2_isLeap 5 = .ok (.iconst 0, 1) := by decide +kernel
theorem dX2_isLeap_6 : decode cX2_isLeap 6 = .ok (.invokevirtual 160, 3) := by decide +kernel
theorem dX2_isLeap_9 : decode cX2_isLeap 9 = .ok (.ifCond .ne 19, 3) := by decide +kernel
theorem dX2_isLeap_12 : decode cX2_isLeap 12 = .ok (.aload_n 0, 1) := by decide +kernel
theorem dX2_isLeap_13 : decode cX2_isLeap 13 = .ok (.getfield 7, 3) := by decide +kernel
theorem dX2_isLeap_16 : decode cX2_isLeap 16 = .ok (.iload_n 1, 1) := by decide +kernel
theorem dX2_isLeap_17 : decode cX2_isLeap 17 = .ok (.iaload, 1) := by decide +kernel
theorem dX2_isLeap_18 : decode cX2_isLeap 18 = .ok (.invokestatic 27, 3) := by decide +kernel
theorem dX2_isLeap_21 : decode cX2_isLeap 21 = .ok (.ifCond .eq 7, 3) := by decide +kernel
theorem dX2_isLeap_24 : decode cX2_isLeap 24 = .ok (.iconst 1, 1) := by decide +kernel
theorem dX2_isLeap_25 : decode cX2_isLeap 25 = .ok (.goto 4, 3) := by decide +kernel
theorem dX2_isLeap_28 : decode cX2_isLeap 28 = .ok (.iconst 0, 1) := by decide +kernel
theorem dX2_isLeap_29 : decode cX2_isLeap 29 = .ok (.ireturn, 1) := by decide +kernel
theorem dX2_ofTime_0 : decode cX2_ofTime 0 = .ok (.aload_n 0, 1) := by decide +kernel
theorem dX2_ofTime_1 : decode cX2_ofTime 1 = .ok (.iload_n 1, 1) := by decide +kernel
theorem dX2_ofTime_2 : decode cX2_ofTime 2 = .ok (.iconst 5, 1) := by decide +kernel
theorem dX2_ofTime_3 : decode cX2_ofTime 3 = .ok (.invokestatic 175, 3) := by decide +kernel
theorem dX2_ofTime_6 : decode cX2_ofTime 6 = .ok (.ldc2_w 169, 3) := by decide +kernel
theorem dX2_ofTime_9 : decode cX2_ofTime 9 = .ok (.invokevirtual 199, 3) := by decide +kernel
theorem dX2_ofTime_12 : decode cX2_ofTime 12 = .ok (.istore_n 3, 1) := by decide +kernel
theorem dX2_ofTime_13 : decode cX2_ofTime 13 = .ok (.iload_n 2, 1) := by decide +kernel
theorem dX2_ofTime_14 : decode cX2_ofTime 14 = .ok (.tableswitch 231 0 13 #[70, 81, 88, 103, 114, 129, 140, 153, 164, 178, 190, 196, 215, 218], 70) := by decide +kernel
theorem dX2_ofTime_84 : decode cX2_ofTime 84 = .ok (.aload_n 0, 1) := by decide +kernel
theorem dX2_ofTime_85 : decode cX2_ofTime 85 = .ok (.getfield 19, 3) := by decide +kernel
theorem dX2_ofTime_88 : decode cX2_ofTime 88 = .ok (.iload_n 1, 1) := by decide +kernel
theorem dX2_ofTime_89 : decode cX2_ofTime 89 = .ok (.laload, 1) := by decide +kernel
theorem dX2_ofTime_90 : decode cX2_ofTime 90 = .ok (.ldc2_w 74, 3) := by decide +kernel
theorem dX2_ofTime_93 : decode cX2_ofTime 93 = .ok (.lrem, 1) := by decide +kernel
theorem dX2_ofTime_94 : decode cX2_ofTime 94 = .ok (.lreturn, 1) := by decide +kernel
theorem dX2_ofTime_95 : decode cX2_ofTime 95 = .ok (.aload_n 0, 1) := by decide +kernel
theorem dX2_ofTime_96 : decode cX2_ofTime 96 = .ok (.getfield 19, 3) := by decide +kernel
theorem dX2_ofTime_99 : decode cX2_ofTime 99 = .ok (.iload_n 1, 1) := by decide +kernel
theorem dX2_ofTime_100 : decode cX2_ofTime 100 = .ok (.laload, 1) := by decide +kernel
theorem dX2_ofTime_101 : decode cX2_ofTime 101 = .ok (.lreturn, 1) := by decide +kernel
theorem dX2_ofTime_102 : decode cX2_ofTime 102 = .ok (.aload_n 0, 1) := by decide +kernel
theorem dX2_ofTime_103 : decode cX2_ofTime 103 = .ok (.getfield 19, 3) := by decide +kernel
theorem dX2_ofTime_106 : decode cX2_ofTime 106 = .ok (.iload_n 1, 1) := by decide +kernel
theorem dX2_ofTime_107 : decode cX2_ofTime 107 = .ok (.laload, 1) := by decide +kernel
theorem dX2_ofTime_108 : decode cX2_ofTime 108 = .ok (.ldc2_w 74, 3) := by decide +kernel
theorem dX2_ofTime_111 : decode cX2_ofTime 111 = .ok (.lrem, 1) := by decide +kernel
theorem dX2_ofTime_112 : decode cX2_ofTime 112 = .ok (.ldc2_w 70, 3) := by decide +kernel
theorem dX2_ofTime_115 : decode cX2_ofTime 115 = .ok (.ldiv, 1) := by decide +kernel
theorem dX2_ofTime_116 : decode cX2_ofTime 116 = .ok (.lreturn, 1) := by decide +kernel
theorem dX2_ofTime_117 : decode cX2_ofTime 117 = .ok (.aload_n 0, 1) := by decide +kernel
theorem dX2_ofTime_118 : decode cX2_ofTime 118 = .ok (.getfield 19, 3) := by decide +kernel
theorem dX2_ofTime_121 : decode cX2_ofTime 121 = .ok (.iload_n 1, 1) := by decide +kernel
theorem dX2_ofTime_122 : decode cX2_ofTime 122 = .ok (.laload, 1) := by decide +kernel
theorem dX2_ofTime_123 : decode cX2_ofTime 123 = .ok (.ldc2_w 70, 3) := by decide +kernel
theorem dX2_ofTime_126 : decode cX2_ofTime 126 = .ok (.ldiv, 1) := by decide +kernel
theorem dX2_ofTime_127 : decode cX2_ofTime 127 = .ok (.lreturn, 1) := by decide +kernel
theorem dX2_ofTime_128 : decode cX2_ofTime 128 = .ok (.aload_n 0, 1) := by decide +kernel
theorem dX2_ofTime_129 : decode cX2_ofTime 129 = .ok (.getfield 19, 3) := by decide +kernel
theorem dX2_ofTime_132 : decode cX2_ofTime 132 = .ok (.iload_n 1, 1) := by decide +kernel
theorem dX2_ofTime_133 : decode cX2_ofTime 133 = .ok (.laload, 1) := by decide +kernel
theorem dX2_ofTime_134 : decode cX2_ofTime 134 = .ok (.ldc2_w 74, 3) := by decide +kernel
theorem dX2_ofTime_137 : decode cX2_ofTime 137 = .ok (.lrem, 1) := by decide +kernel
theorem dX2_ofTime_138 : decode cX2_ofTime 138 = .ok (.ldc2_w 72, 3) := by decide +kernel
theorem dX2_ofTime_141 : decode cX2_ofTime 141 = .ok (.ldiv, 1) := by decide +kernel
theorem dX2_ofTime_142 : decode cX2_ofTime 142 = .ok (.lreturn, 1) := by decide +kernel
theorem dX2_ofTime_143 : decode cX2_ofTime 143 = .ok (.aload_n 0, 1) := by decide +kernel
theorem dX2_ofTime_144 : decode cX2_ofTime 144 = .ok (.getfield 19, 3) := by decide +kernel
theorem dX2_ofTime_147 : decode cX2_ofTime 147 = .ok (.iload_n 1, 1) := by decide +kernel
theorem dX2_ofTime_148 : decode cX2_ofTime 148 = .ok (.laload, 1) := by decide +kernel
theorem dX2_ofTime_149 : decode cX2_ofTime 149 = .ok (.ldc2_w 72, 3) := by decide +kernel
theorem dX2_ofTime_152 : decode cX2_ofTime 152 = .ok (.ldiv, 1) := by decide +kernel
theorem dX2_ofTime_153 : decode cX2_ofTime 153 = .ok (.lreturn, 1) := by decide +kernel
theorem dX2_ofTime_154 : decode cX2_ofTime 154 = .ok (.aload_n 0, 1) := by decide +kernel
theorem dX2_ofTime_155 : decode cX2_ofTime 155 = .ok (.iload_n 1, 1) := by decide +kernel
theorem dX2_ofTime_156 : decode cX2_ofTime 156 = .ok (.ldc2_w 74, 3) := by decide +kernel
theorem dX2_ofTime_159 : decode cX2_ofTime 159 = .ok (.ldc2_w 155, 3) := by decide +kernel
theorem dX2_ofTime_162 : decode cX2_ofTime 162 = .ok (.invokevirtual 199, 3) := by decide +kernel
theorem dX2_ofTime_165 : decode cX2_ofTime 165 = .ok (.i2l, 1) := by decide +kernel
theorem dX2_ofTime_166 : decode cX2_ofTime 166 = .ok (.lreturn, 1) := by decide +kernel
theorem dX2_ofTime_167 : decode cX2_ofTime 167 = .ok (.aload_n 0, 1) := by decide +kernel
theorem dX2_ofTime_168 : decode cX2_ofTime 168 = .ok (.getfield 19, 3) := by decide +kernel
theorem dX2_ofTime_171 : decode cX2_ofTime 171 = .ok (.iload_n 1, 1) := by decide +kernel
theorem dX2_ofTime_172 : decode cX2_ofTime 172 = .ok (.laload, 1) := by decide +kernel
theorem dX2_ofTime_173 : decode cX2_ofTime 173 = .ok (.ldc2_w 74, 3) := by decide +kernel
theorem dX2_ofTime_176 : decode cX2_ofTime 176 = .ok (.ldiv, 1) := by decide +kernel
theorem dX2_ofTime_177 : decode cX2_ofTime 177 = .ok (.lreturn, 1) := by decide +kernel
theorem dX2_ofTime_178 : decode cX2_ofTime 178 = .ok (.aload_n 0, 1) := by decide +kernel
theorem dX2_ofTime_179 : decode cX2_ofTime 179 = .ok (.iload_n 1, 1) := by decide +kernel
theorem dX2_ofTime_180 : decode cX2_ofTime 180 = .ok (.iconst 4, 1) := by decide +kernel
theorem dX2_ofTime_181 : decode cX2_ofTime 181 = .ok (.invokestatic 175, 3) := by decide +kernel
theorem dX2_ofTime_184 : decode cX2_ofTime 184 = .ok (.ldc2_w 155, 3) := by decide +kernel
theorem dX2_ofTime_187 : decode cX2_ofTime 187 = .ok (.invokevirtual 199, 3) := by decide +kernel
theorem dX2_ofTime_190 : decode cX2_ofTime 190 = .ok (.i2l, 1) := by decide +kernel
theorem dX2_ofTime_191 : decode cX2_ofTime 191 = .ok (.lreturn, 1) := by decide +kernel
theorem dX2_ofTime_192 : decode cX2_ofTime 192 = .ok (.aload_n 0, 1) := by decide +kernel
theorem dX2_ofTime_193 : decode cX2_ofTime 193 = .ok (.getfield 19, 3) := by decide +kernel
theorem dX2_ofTime_196 : decode cX2_ofTime 196 = .ok (.iload_n 1, 1) := by decide +kernel
theorem dX2_ofTime_197 : decode cX2_ofTime 197 = .ok (.laload, 1) := by decide +kernel
theorem dX2_ofTime_198 : decode cX2_ofTime 198 = .ok (.iconst 4, 1) := by decide +kernel
theorem dX2_ofTime_199 : decode cX2_ofTime 199 = .ok (.invokestatic 175, 3) := by decide +kernel
theorem dX2_ofTime_202 : decode cX2_ofTime 202 = .ok (.ldiv, 1) := by decide +kernel
theorem dX2_ofTime_203 : decode cX2_ofTime 203 = .ok (.lreturn, 1) := by decide +kernel
theorem dX2_ofTime_204 : decode cX2_ofTime 204 = .ok (.iload_n 3, 1) := by decide +kernel
theorem dX2_ofTime_205 : decode cX2_ofTime 205 = .ok (.bipush 12, 2) := by decide +kernel
theorem dX2_ofTime_207 : decode cX2_ofTime 207 = .ok (.irem, 1) := by decide +kernel
theorem dX2_ofTime_208 : decode cX2_ofTime 208 = .ok (.i2l, 1) := by decide +kernel
theorem dX2_ofTime_209 : decode cX2_ofTime 209 = .ok (.lreturn, 1) := by decide +kernel
theorem dX2_ofTime_210 : decode cX2_ofTime 210 = .ok (.iload_n 3, 1) := by decide +kernel
theorem dX2_ofTime_211 : decode cX2_ofTime 211 = .ok (.bipush 12, 2) := by decide +kernel
theorem dX2_ofTime_213 : decode cX2_ofTime 213 = .ok (.irem, 1) := by decide +kernel
theorem dX2_ofTime_214 : decode cX2_ofTime 214 = .ok (.ifCond .ne 9, 3) := by decide +kernel
theorem dX2_ofTime_217 : decode cX2_ofTime 217 = .ok (.ldc2_w 132, 3) := by decide +kernel
theorem dX2_ofTime_220 : decode cX2_ofTime 220 = .ok (.goto 8, 3) := by decide +kernel
theorem dX2_ofTime_223 : decode cX2_ofTime 223 = .ok (.iload_n 3, 1) := by decide +kernel
theorem dX2_ofTime_224 : decode cX2_ofTime 224 = .ok (.bipush 12, 2) := by decide +kernel
theorem dX2_ofTime_226 : decode cX2_ofTime 226 = .ok (.irem, 1) := by decide +kernel
theorem dX2_ofTime_227 : decode cX2_ofTime 227 = .ok (.i2l, 1) := by decide +kernel
theorem dX2_ofTime_228 : decode cX2_ofTime 228 = .ok (.lreturn, 1) := by decide +kernel
theorem dX2_ofTime_229 : decode cX2_ofTime 229 = .ok (.iload_n 3, 1) := by decide +kernel
theorem dX2_ofTime_230 : decode cX2_ofTime 230 = .ok (.i2l, 1) := by decide +kernel
theorem dX2_ofTime_231 : decode cX2_ofTime 231 = .ok (.lreturn, 1) := by decide +kernel
theorem dX2_ofTime_232 : decode cX2_ofTime 232 = .ok (.iload_n 3, 1) := by decide +kernel
theorem dX2_ofTime_233 : decode cX2_ofTime 233 = .ok (.ifCond .ne 9, 3) := by decide +kernel
theorem dX2_ofTime_236 : decode cX2_ofTime 236 = .ok (.ldc2_w 169, 3) := by decide +kernel
theorem dX2_ofTime_239 : decode cX2_ofTime 239 = .ok (.goto 5, 3) := by decide +kernel
theorem dX2_ofTime_242 : decode cX2_ofTime 242 = .ok (.iload_n 3, 1) := by decide +kernel
theorem dX2_ofTime_243 : decode cX2_ofTime 243 = .ok (.i2l, 1) := by decide +kernel
theorem dX2_ofTime_244 : decode cX2_ofTime 244 = .ok (.lreturn, 1) := by decide +kernel
theorem dX2_ofTime_245 : decode cX2_ofTime 245 = .ok (.iload_n 3, 1) := by decide +kernel
theorem dX2_ofTime_246 : decode cX2_ofTime 246 = .ok (.bipush 12, 2) := by decide +kernel
theorem dX2_ofTime_248 : decode cX2_ofTime 248 = .ok (.if_icmp .ge 7, 3) := by decide +kernel
theorem dX2_ofTime_251 : decode cX2_ofTime 251 = .ok (.lconst 0, 1) := by decide +kernel
theorem dX2_ofTime_252 : decode cX2_ofTime 252 = .ok (.goto 4, 3) := by decide +kernel
theorem dX2_ofTime_255 : decode cX2_ofTime 255 = .ok (.lconst 1, 1) := by decide +kernel
theorem dX2_ofTime_256 : decode cX2_ofTime 256 = .ok (.lreturn, 1) := by decide +kernel
theorem dX2_ofDate_0 : decode cX2_ofDate 0 = .ok (.aload_n 0, 1) := by decide +kernel
theorem dX2_ofDate_1 : decode cX2_ofDate 1 = .ok (.getfield 16, 3) := by decide +kernel
theorem dX2_ofDate_4 : decode cX2_ofDate 4 = .ok (.iload_n 1, 1) := by decide +kernel
theorem dX2_ofDate_5 : decode cX2_ofDate 5 = .ok (.iaload, 1) := by decide +kernel
theorem dX2_ofDate_6 : decode cX2_ofDate 6 = .ok (.iconst 1, 1) := by decide +kernel
theorem dX2_ofDate_7 : decode cX2_ofDate 7 = .ok (.isub, 1) := by decide +kernel
theorem dX2_ofDate_8 : decode cX2_ofDate 8 = .ok (.istore_n 3, 1) := by decide +kernel
theorem dX2_ofDate_9 : decode cX2_ofDate 9 = .ok (.aload_n 0, 1) := by decide +kernel
theorem dX2_ofDate_10 : decode cX2_ofDate 10 = .ok (.iload_n 1, 1) := by decide +kernel
theorem dX2_ofDate_11 : decode cX2_ofDate 11 = .ok (.invokevirtual 196, 3) := by decide +kernel
theorem dX2_ofDate_14 : decode cX2_ofDate 14 = .ok (.iconst 1, 1) := by decide +kernel
theorem dX2_ofDate_15 : decode cX2_ofDate 15 = .ok (.isub, 1) := by decide +kernel
theorem dX2_ofDate_16 : decode cX2_ofDate 16 = .ok (.istore 4, 2) := by decide +kernel
theorem dX2_ofDate_18 : decode cX2_ofDate 18 = .ok (.aload_n 0, 1) := by decide +kernel
theorem dX2_ofDate_19 : decode cX2_ofDate 19 = .ok (.getfield 7, 3) := by decide +kernel
theorem dX2_ofDate_22 : decode cX2_ofDate 22 = .ok (.iload_n 1, 1) := by decide +kernel
theorem dX2_ofDate_23 : decode cX2_ofDate 23 = .ok (.iaload, 1) := by decide +kernel
theorem dX2_ofDate_24 : decode cX2_ofDate 24 = .ok (.istore 5, 2) := by decide +kernel
theorem dX2_ofDate_26 : decode cX2_ofDate 26 = .ok (.iload_n 2, 1) := by decide +kernel
theorem dX2_ofDate_27 : decode cX2_ofDate 27 = .ok (.tableswitch 166 15 26 #[61, 68, 76, 85, 90, 96, 102, 110, 119, 127, 145, 162], 61) := by decide +kernel
theorem dX2_ofDate_88 : decode cX2_ofDate 88 = .ok (.aload_n 0, 1) := by decide +kernel
theorem dX2_ofDate_89 : decode cX2_ofDate 89 = .ok (.iload_n 1, 1) := by decide +kernel
theorem dX2_ofDate_90 : decode cX2_ofDate 90 = .ok (.invokevirtual 108, 3) := by decide +kernel
theorem dX2_ofDate_93 : decode cX2_ofDate 93 = .ok (.i2l, 1) := by decide +kernel
theorem dX2_ofDate_94 : decode cX2_ofDate 94 = .ok (.lreturn, 1) := by decide +kernel
theorem dX2_ofDate_95 : decode cX2_ofDate 95 = .ok (.iload_n 3, 1) := by decide +kernel
theorem dX2_ofDate_96 : decode cX2_ofDate 96 = .ok (.bipush 7, 2) := by decide +kernel
theorem dX2_ofDate_98 : decode cX2_ofDate 98 = .ok (.irem, 1) := by decide +kernel
theorem dX2_ofDate_99 : decode cX2_ofDate 99 = .ok (.iconst 1, 1) := by decide +kernel
theorem dX2_ofDate_100 : decode cX2_ofDate 100 = .ok (.iadd, 1) := by decide +kernel
theorem dX2_ofDate_101 : decode cX2_ofDate 101 = .ok (.i2l, 1) := by decide +kernel
theorem dX2_ofDate_102 : decode cX2_ofDate 102 = .ok (.lreturn, 1) := by decide +kernel
theorem dX2_ofDate_103 : decode cX2_ofDate 103 = .ok (.iload 4, 2) := by decide +kernel
theorem dX2_ofDate_105 : decode cX2_ofDate 105 = .ok (.bipush 7, 2) := by decide +kernel
theorem dX2_ofDate_107 : decode cX2_ofDate 107 = .ok (.irem, 1) := by decide +kernel
theorem dX2_ofDate_108 : decode cX2_ofDate 108 = .ok (.iconst 1, 1) := by decide +kernel
theorem dX2_ofDate_109 : decode cX2_ofDate 109 = .ok (.iadd, 1) := by decide +kernel
theorem dX2_ofDate_110 : decode cX2_ofDate 110 = .ok (.i2l, 1) := by decide +kernel
theorem dX2_ofDate_111 : decode cX2_ofDate 111 = .ok (.lreturn, 1) := by decide +kernel
theorem dX2_ofDate_112 : decode cX2_ofDate 112 = .ok (.iload_n 3, 1) := by decide +kernel
theorem dX2_ofDate_113 : decode cX2_ofDate 113 = .ok (.iconst 1, 1) := by decide +kernel
theorem dX2_ofDate_114 : decode cX2_ofDate 114 = .ok (.iadd, 1) := by decide +kernel
theorem dX2_ofDate_115 : decode cX2_ofDate 115 = .ok (.i2l, 1) := by decide +kernel
theorem dX2_ofDate_116 : decode cX2_ofDate 116 = .ok (.lreturn, 1) := by decide +kernel
theorem dX2_ofDate_117 : decode cX2_ofDate 117 = .ok (.iload 4, 2) := by decide +kernel
theorem dX2_ofDate_119 : decode cX2_ofDate 119 = .ok (.iconst 1, 1) := by decide +kernel
theorem dX2_ofDate_120 : decode cX2_ofDate 120 = .ok (.iadd, 1) := by decide +kernel
theorem dX2_ofDate_121 : decode cX2_ofDate 121 = .ok (.i2l, 1) := by decide +kernel
theorem dX2_ofDate_122 : decode cX2_ofDate 122 = .ok (.lreturn, 1) := by decide +kernel
theorem dX2_ofDate_123 : decode cX2_ofDate 123 = .ok (.aload_n 0, 1) := by decide +kernel
theorem dX2_ofDate_124 : decode cX2_ofDate 124 = .ok (.iload_n 1, 1) := by decide +kernel
theorem dX2_ofDate_125 : decode cX2_ofDate 125 = .ok (.invokevirtual 97, 3) := by decide +kernel
theorem dX2_ofDate_128 : decode cX2_ofDate 128 = .ok (.lreturn, 1) := by decide +kernel
theorem dX2_ofDate_129 : decode cX2_ofDate 129 = .ok (.iload_n 3, 1) := by decide +kernel
theorem dX2_ofDate_130 : decode cX2_ofDate 130 = .ok (.bipush 7, 2) := by decide +kernel
theorem dX2_ofDate_132 : decode cX2_ofDate 132 = .ok (.idiv, 1) := by decide +kernel
theorem dX2_ofDate_133 : decode cX2_ofDate 133 = .ok (.iconst 1, 1) := by decide +kernel
theorem dX2_ofDate_134 : decode cX2_ofDate 134 = .ok (.iadd, 1) := by decide +kernel
theorem dX2_ofDate_135 : decode cX2_ofDate 135 = .ok (.i2l, 1) := by decide +kernel
theorem dX2_ofDate_136 : decode cX2_ofDate 136 = .ok (.lreturn, 1) := by decide +kernel
theorem dX2_ofDate_137 : decode cX2_ofDate 137 = .ok (.iload 4, 2) := by decide +kernel
theorem dX2_ofDate_139 : decode cX2_ofDate 139 = .ok (.bipush 7, 2) := by decide +kernel
theorem dX2_ofDate_141 : decode cX2_ofDate 141 = .ok (.idiv, 1) := by decide +kernel
theorem dX2_ofDate_142 : decode cX2_ofDate 142 = .ok (.iconst 1, 1) := by decide +kernel
theorem dX2_ofDate_143 : decode cX2_ofDate 143 = .ok (.iadd, 1) := by decide +kernel
theorem dX2_ofDate_144 : decode cX2_ofDate 144 = .ok (.i2l, 1) := by decide +kernel
theorem dX2_ofDate_145 : decode cX2_ofDate 145 = .ok (.lreturn, 1) := by decide +kernel
theorem dX2_ofDate_146 : decode cX2_ofDate 146 = .ok (.aload_n 0, 1) := by decide +kernel
theorem dX2_ofDate_147 : decode cX2_ofDate 147 = .ok (.getfield 13, 3) := by decide +kernel
theorem dX2_ofDate_150 : decode cX2_ofDate 150 = .ok (.iload_n 1, 1) := by decide +kernel
theorem dX2_ofDate_151 : decode cX2_ofDate 151 = .ok (.iaload, 1) := by decide +kernel
theorem dX2_ofDate_152 : decode cX2_ofDate 152 = .ok (.i2l, 1) := by decide +kernel
theorem dX2_ofDate_153 : decode cX2_ofDate 153 = .ok (.lreturn, 1) := by decide +kernel
theorem dX2_ofDate_154 : decode cX2_ofDate 154 = .ok (.ldc2_w 132, 3) := by decide +kernel
theorem dX2_ofDate_157 : decode cX2_ofDate 157 = .ok (.iload 5, 2) := by decide +kernel
theorem dX2_ofDate_159 : decode cX2_ofDate 159 = .ok (.i2l, 1) := by decide +kernel
theorem dX2_ofDate_160 : decode cX2_ofDate 160 = .ok (.lmul, 1) := by decide +kernel
theorem dX2_ofDate_161 : decode cX2_ofDate 161 = .ok (.aload_n 0, 1) := by decide +kernel
theorem dX2_ofDate_162 : decode cX2_ofDate 162 = .ok (.getfield 13, 3) := by decide +kernel
theorem dX2_ofDate_165 : decode cX2_ofDate 165 = .ok (.iload_n 1, 1) := by decide +kernel
theorem dX2_ofDate_166 : decode cX2_ofDate 166 = .ok (.iaload, 1) := by decide +kernel
theorem dX2_ofDate_167 : decode cX2_ofDate 167 = .ok (.i2l, 1) := by decide +kernel
theorem dX2_ofDate_168 : decode cX2_ofDate 168 = .ok (.ladd, 1) := by decide +kernel
theorem dX2_ofDate_169 : decode cX2_ofDate 169 = .ok (.lconst 1, 1) := by decide +kernel
theorem dX2_ofDate_170 : decode cX2_ofDate 170 = .ok (.lsub, 1) := by decide +kernel
theorem dX2_ofDate_171 : decode cX2_ofDate 171 = .ok (.lreturn, 1) := by decide +kernel
theorem dX2_ofDate_172 : decode cX2_ofDate 172 = .ok (.iload 5, 2) := by decide +kernel
theorem dX2_ofDate_174 : decode cX2_ofDate 174 = .ok (.ifCond .le 9, 3) := by decide +kernel
theorem dX2_ofDate_177 : decode cX2_ofDate 177 = .ok (.iload 5, 2) := by decide +kernel
theorem dX2_ofDate_179 : decode cX2_ofDate 179 = .ok (.i2l, 1) := by decide +kernel
theorem dX2_ofDate_180 : decode cX2_ofDate 180 = .ok (.goto 8, 3) := by decide +kernel
theorem dX2_ofDate_183 : decode cX2_ofDate 183 = .ok (.iconst 1, 1) := by decide +kernel
theorem dX2_ofDate_184 : decode cX2_ofDate 184 = .ok (.iload 5, 2) := by decide +kernel
theorem dX2_ofDate_186 : decode cX2_ofDate 186 = .ok (.isub, 1) := by decide +kernel
theorem dX2_ofDate_187 : decode cX2_ofDate 187 = .ok (.i2l, 1) := by decide +kernel
theorem dX2_ofDate_188 : decode cX2_ofDate 188 = .ok (.lreturn, 1) := by decide +kernel
theorem dX2_ofDate_189 : decode cX2_ofDate 189 = .ok (.iload 5, 2) := by decide +kernel
theorem dX2_ofDate_191 : decode cX2_ofDate 191 = .ok (.i2l, 1) := by decide +kernel
theorem dX2_ofDate_192 : decode cX2_ofDate 192 = .ok (.lreturn, 1) := by decide +kernel
theorem dX2_ofDate_193 : decode cX2_ofDate 193 = .ok (.iload 5, 2) := by decide +kernel
theorem dX2_ofDate_195 : decode cX2_ofDate 195 = .ok (.ifCond .le 7, 3) := by decide +kernel
theorem dX2_ofDate_198 : decode cX2_ofDate 198 = .ok (.lconst 1, 1) := by decide +kernel
theorem dX2_ofDate_199 : decode cX2_ofDate 199 = .ok (.goto 4, 3) := by decide +kernel
theorem dX2_ofDate_202 : decode cX2_ofDate 202 = .ok (.lconst 0, 1) := by decide +kernel
theorem dX2_ofDate_203 : decode cX2_ofDate 203 = .ok (.lreturn, 1) := by decide +kernel
theorem dX2_field_0 : decode cX2_field 0 = .ok (.aload_n 0, 1) := by decide +kernel
theorem dX2_field_1 : decode cX2_field 1 = .ok (.iload_n 1, 1) := by decide +kernel
theorem dX2_field_2 : decode cX2_field 2 = .ok (.invokestatic 157, 3) := by decide +kernel
theorem dX2_field_5 : decode cX2_field 5 = .ok (.iconst 0, 1) := by decide +kernel
theorem dX2_field_6 : decode cX2_field 6 = .ok (.bipush 27, 2) := by decide +kernel
theorem dX2_field_8 : decode cX2_field 8 = .ok (.iload_n 2, 1) := by decide +kernel
theorem dX2_field_9 : decode cX2_field 9 = .ok (.invokestatic 86, 3) := by decide +kernel
theorem dX2_field_12 : decode cX2_field 12 = .ok (.ifCond .ne 7, 3) := by decide +kernel
theorem dX2_field_15 : decode cX2_field 15 = .ok (.iconst 1, 1) := by decide +kernel
theorem dX2_field_16 : decode cX2_field 16 = .ok (.goto 4, 3) := by decide +kernel
theorem dX2_field_19 : decode cX2_field 19 = .ok (.iconst 0, 1) := by decide +kernel
theorem dX2_field_20 : decode cX2_field 20 = .ok (.invokevirtual 160, 3) := by decide +kernel
theorem dX2_field_23 : decode cX2_field 23 = .ok (.ifCond .eq 6, 3) := by decide +kernel
theorem dX2_field_26 : decode cX2_field 26 = .ok (.ldc 204, 2) := by decide +kernel
theorem dX2_field_28 : decode cX2_field 28 = .ok (.areturn, 1) := by decide +kernel
theorem dX2_field_29 : decode cX2_field 29 = .ok (.new 206, 3) := by decide +kernel
theorem dX2_field_32 : decode cX2_field 32 = .ok (.dup, 1) := by decide +kernel
theorem dX2_field_33 : decode cX2_field 33 = .ok (.invokespecial 208, 3) := by decide +kernel
theorem dX2_field_36 : decode cX2_field 36 = .ok (.ldc 204, 2) := by decide +kernel
theorem dX2_field_38 : decode cX2_field 38 = .ok (.invokevirtual 209, 3) := by decide +kernel
theorem dX2_field_41 : decode cX2_field 41 = .ok (.iload_n 2, 1) := by decide +kernel
theorem dX2_field_42 : decode cX2_field 42 = .ok (.bipush 15, 2) := by decide +kernel
theorem dX2_field_44 : decode cX2_field 44 = .ok (.if_icmp .ge 12, 3) := by decide +kernel
theorem dX2_field_47 : decode cX2_field 47 = .ok (.aload_n 0, 1) := by decide +kernel
theorem dX2_field_48 : decode cX2_field 48 = .ok (.iload_n 1, 1) := by decide +kernel
theorem dX2_field_49 : decode cX2_field 49 = .ok (.iload_n 2, 1) := by decide +kernel
theorem dX2_field_50 : decode cX2_field 50 = .ok (.invokevirtual 220, 3) := by decide +kernel
theorem dX2_field_53 : decode cX2_field 53 = .ok (.goto 9, 3) := by decide +kernel
theorem dX2_field_56 : decode cX2_field 56 = .ok (.aload_n 0, 1) := by decide +kernel
theorem dX2_field_57 : decode cX2_field 57 = .ok (.iload_n 1, 1) := by decide +kernel
theorem dX2_field_58 : decode cX2_field 58 = .ok (.iload_n 2, 1) := by decide +kernel
theorem dX2_field_59 : decode cX2_field 59 = .ok (.invokevirtual 224, 3) := by decide +kernel
theorem dX2_field_62 : decode cX2_field 62 = .ok (.invokevirtual 213, 3) := by decide +kernel
theorem dX2_field_65 : decode cX2_field 65 = .ok (.invokevirtual 216, 3) := by decide +kernel
theorem dX2_field_68 : decode cX2_field 68 = .ok (.areturn, 1) := by decide +kernel
theorem dX2_order_0 : decode cX2_order 0 = .ok (.aload_n 0, 1) := by decide +kernel
theorem dX2_order_1 : decode cX2_order 1 = .ok (.iload_n 1, 1) := by decide +kernel
theorem dX2_order_2 : decode cX2_order 2 = .ok (.invokevirtual 97, 3) := by decide +kernel
theorem dX2_order_5 : decode cX2_order 5 = .ok (.aload_n 0, 1) := by decide +kernel
theorem dX2_order_6 : decode cX2_order 6 = .ok (.iload_n 2, 1) := by decide +kernel
theorem dX2_order_7 : decode cX2_order 7 = .ok (.invokevirtual 97, 3) := by decide +kernel
theorem dX2_order_10 : decode cX2_order 10 = .ok (.lsub, 1) := by decide +kernel
theorem dX2_order_11 : decode cX2_order 11 = .ok (.lstore_n 3, 1) := by decide +kernel
theorem dX2_order_12 : decode cX2_order 12 = .ok (.lload_n 3, 1) := by decide +kernel
theorem dX2_order_13 : decode cX2_order 13 = .ok (.lconst 0, 1) := by decide +kernel
theorem dX2_order_14 : decode cX2_order 14 = .ok (.lcmp, 1) := by decide +kernel
theorem dX2_order_15 : decode cX2_order 15 = .ok (.ifCond .eq 7, 3) := by decide +kernel
theorem dX2_order_18 : decode cX2_order 18 = .ok (.lload_n 3, 1) := by decide +kernel
theorem dX2_order_19 : decode cX2_order 19 = .ok (.goto 16, 3) := by decide +kernel
theorem dX2_order_22 : decode cX2_order 22 = .ok (.aload_n 0, 1) := by decide +kernel
theorem dX2_order_23 : decode cX2_order 23 = .ok (.getfield 19, 3) := by decide +kernel
theorem dX2_order_26 : decode cX2_order 26 = .ok (.iload_n 1, 1) := by decide +kernel
theorem dX2_order_27 : decode cX2_order 27 = .ok (.laload, 1) := by decide +kernel
theorem dX2_order_28 : decode cX2_order 28 = .ok (.aload_n 0, 1) := by decide +kernel
theorem dX2_order_29 : decode cX2_order 29 = .ok (.getfield 19, 3) := by decide +kernel
theorem dX2_order_32 : decode cX2_order 32 = .ok (.iload_n 2, 1) := by decide +kernel
theorem dX2_order_33 : decode cX2_order 33 = .ok (.laload, 1) := by decide +kernel
theorem dX2_order_34 : decode cX2_order 34 = .ok (.lsub, 1) := by decide +kernel
theorem dX2_order_35 : decode cX2_order 35 = .ok (.lstore 5, 2) := by decide +kernel
theorem dX2_order_37 : decode cX2_order 37 = .ok (.lload 5, 2) := by decide +kernel
theorem dX2_order_39 : decode cX2_order 39 = .ok (.lconst 0, 1) := by decide +kernel
theorem dX2_order_40 : decode cX2_order 40 = .ok (.lcmp, 1) := by decide +kernel
theorem dX2_order_41 : decode cX2_order 41 = .ok (.ifCond .ge 7, 3) := by decide +kernel
theorem dX2_order_44 : decode cX2_order 44 = .ok (.iconst (-1), 1) := by decide +kernel
theorem dX2_order_45 : decode cX2_order 45 = .ok (.goto 15, 3) := by decide +kernel
theorem dX2_order_48 : decode cX2_order 48 = .ok (.lload 5, 2) := by decide +kernel
theorem dX2_order_50 : decode cX2_order 50 = .ok (.lconst 0, 1) := by decide +kernel
theorem dX2_order_51 : decode cX2_order 51 = .ok (.lcmp, 1) := by decide +kernel
theorem dX2_order_52 : decode cX2_order 52 = .ok (.ifCond .le 7, 3) := by decide +kernel
theorem dX2_order_55 : decode cX2_order 55 = .ok (.iconst 1, 1) := by decide +kernel
theorem dX2_order_56 : decode cX2_order 56 = .ok (.goto 4, 3) := by decide +kernel
theorem dX2_order_59 : decode cX2_order 59 = .ok (.iconst 0, 1) := by decide +kernel
theorem dX2_order_60 : decode cX2_order 60 = .ok (.ireturn, 1) := by decide +kernel
theorem dX2_compare_0 : decode cX2_compare 0 = .ok (.aload_n 0, 1) := by decide +kernel
theorem dX2_compare_1 : decode cX2_compare 1 = .ok (.iload_n 1, 1) := by decide +kernel
theorem dX2_compare_2 : decode cX2_compare 2 = .ok (.invokestatic 157, 3) := by decide +kernel
theorem dX2_compare_5 : decode cX2_compare 5 = .ok (.ifCond .ne 10, 3) := by decide +kernel
theorem dX2_compare_8 : decode cX2_compare 8 = .ok (.iload_n 2, 1) := by decide +kernel
theorem dX2_compare_9 : decode cX2_compare 9 = .ok (.invokestatic 157, 3) := by decide +kernel
theorem dX2_compare_12 : decode cX2_compare 12 = .ok (.ifCond .eq 7, 3) := by decide +kernel
theorem dX2_compare_15 : decode cX2_compare 15 = .ok (.iconst 1, 1) := by decide +kernel
theorem dX2_compare_16 : decode cX2_compare 16 = .ok (.goto 4, 3) := by decide +kernel
theorem dX2_compare_19 : decode cX2_compare 19 = .ok (.iconst 0, 1) := by decide +kernel
theorem dX2_compare_20 : decode cX2_compare 20 = .ok (.iconst 0, 1) := by decide +kernel
theorem dX2_compare_21 : decode cX2_compare 21 = .ok (.invokevirtual 160, 3) := by decide +kernel
theorem dX2_compare_24 : decode cX2_compare 24 = .ok (.ifCond .eq 7, 3) := by decide +kernel
theorem dX2_compare_27 : decode cX2_compare 27 = .ok (.iconst 0, 1) := by decide +kernel
theorem dX2_compare_28 : decode cX2_compare 28 = .ok (.goto 9, 3) := by decide +kernel
theorem dX2_compare_31 : decode cX2_compare 31 = .ok (.aload_n 0, 1) := by decide +kernel
theorem dX2_compare_32 : decode cX2_compare 32 = .ok (.iload_n 1, 1) := by decide +kernel
theorem dX2_compare_33 : decode cX2_compare 33 = .ok (.iload_n 2, 1) := by decide +kernel
theorem dX2_compare_34 : decode cX2_compare 34 = .ok (.invokevirtual 227, 3) := by decide +kernel
theorem dX2_compare_37 : decode cX2_compare 37 = .ok (.ireturn, 1) := by decide +kernel
theorem dX2_isSame_0 : decode cX2_isSame 0 = .ok (.aload_n 0, 1) := by decide +kernel
theorem dX2_isSame_1 : decode cX2_isSame 1 = .ok (.iload_n 1, 1) := by decide +kernel
theorem dX2_isSame_2 : decode cX2_isSame 2 = .ok (.invokestatic 157, 3) := by decide +kernel
theorem dX2_isSame_5 : decode cX2_isSame 5 = .ok (.ifCond .ne 10, 3) := by decide +kernel
theorem dX2_isSame_8 : decode cX2_isSame 8 = .ok (.iload_n 2, 1) := by decide +kernel
theorem dX2_isSame_9 : decode cX2_isSame 9 = .ok (.invokestatic 157, 3) := by decide +kernel
theorem dX2_isSame_12 : decode cX2_isSame 12 = .ok (.ifCond .eq 7, 3) := by decide +kernel
theorem dX2_isSame_15 : decode cX2_isSame 15 = .ok (.iconst 1, 1) := by decide +kernel
theorem dX2_isSame_16 : decode cX2_isSame 16 = .ok (.goto 4, 3) := by decide +kernel
theorem dX2_isSame_19 : decode cX2_isSame 19 = .ok (.iconst 0, 1) := by decide +kernel
theorem dX2_isSame_20 : decode cX2_isSame 20 = .ok (.iconst 0, 1) := by decide +kernel
theorem dX2_isSame_21 : decode cX2_isSame 21 = .ok (.invokevirtual 160, 3) := by decide +kernel
theorem dX2_isSame_24 : decode cX2_isSame 24 = .ok (.ifCond .ne 16, 3) := by decide +kernel
theorem dX2_isSame_27 : decode cX2_isSame 27 = .ok (.aload_n 0, 1) := by decide +kernel
theorem dX2_isSame_28 : decode cX2_isSame 28 = .ok (.iload_n 1, 1) := by decide +kernel
theorem dX2_isSame_29 : decode cX2_isSame 29 = .ok (.iload_n 2, 1) := by decide +kernel
theorem dX2_isSame_30 : decode cX2_isSame 30 = .ok (.invokevirtual 227, 3) := by decide +kernel
theorem dX2_isSame_33 : decode cX2_isSame 33 = .ok (.ifCond .ne 7, 3) := by decide +kernel
theorem dX2_isSame_36 : decode cX2_isSame 36 = .ok (.iconst 1, 1) := by decide +kernel
theorem dX2_isSame_37 : decode cX2_isSame 37 = .ok (.goto 4, 3) := by decide +kernel
theorem dX2_isSame_40 : decode cX2_isSame 40 = .ok (.iconst 0, 1) := by decide +kernel
theorem dX2_isSame_41 : decode cX2_isSame 41 = .ok (.ireturn, 1) := by decide +kernel
theorem dX2_isSameAs_0 : decode cX2_isSameAs 0 = .ok (.aload_n 0, 1) := by decide +kernel
theorem dX2_isSameAs_1 : decode cX2_isSameAs 1 = .ok (.iload_n 1, 1) := by decide +kernel
theorem dX2_isSameAs_2 : decode cX2_isSameAs 2 = .ok (.invokestatic 157, 3) := by decide +kernel
theorem dX2_isSameAs_5 : decode cX2_isSameAs 5 = .ok (.iconst 0, 1) := by decide +kernel
theorem dX2_isSameAs_6 : decode cX2_isSameAs 6 = .ok (.iconst 4, 1) := by decide +kernel
theorem dX2_isSameAs_7 : decode cX2_isSameAs 7 = .ok (.iload_n 2, 1) := by decide +kernel
theorem dX2_isSameAs_8 : decode cX2_isSameAs 8 = .ok (.invokestatic 86, 3) := by decide +kernel
theorem dX2_isSameAs_11 : decode cX2_isSameAs 11 = .ok (.ifCond .ne 7, 3) := by decide +kernel
theorem dX2_isSameAs_14 : decode cX2_isSameAs 14 = .ok (.iconst 1, 1) := by decide +kernel
theorem dX2_isSameAs_15 : decode cX2_isSameAs 15 = .ok (.goto 4, 3) := by decide +kernel
theorem dX2_isSameAs_18 : decode cX2_isSameAs 18 = .ok (.iconst 0, 1) := by decide +kernel
theorem dX2_isSameAs_19 : decode cX2_isSameAs 19 = .ok (.invokevirtual 160, 3) := by decide +kernel
theorem dX2_isSameAs_22 : decode cX2_isSameAs 22 = .ok (.ifCond .ne 12, 3) := by decide +kernel
theorem dX2_isSameAs_25 : decode cX2_isSameAs 25 = .ok (.iload_n 2, 1) := by decide +kernel
theorem dX2_isSameAs_26 : decode cX2_isSameAs 26 = .ok (.iconst 2, 1) := by decide +kernel
theorem dX2_isSameAs_27 : decode cX2_isSameAs 27 = .ok (.if_icmp .le 7, 3) := by decide +kernel
theorem dX2_isSameAs_30 : decode cX2_isSameAs 30 = .ok (.iconst 1, 1) := by decide +kernel
theorem dX2_isSameAs_31 : decode cX2_isSameAs 31 = .ok (.goto 4, 3) := by decide +kernel
theorem dX2_isSameAs_34 : decode cX2_isSameAs 34 = .ok (.iconst 0, 1) := by decide +kernel
theorem dX2_isSameAs_35 : decode cX2_isSameAs 35 = .ok (.ireturn, 1) := by decide +kernel
theorem dX2_lineBetween_0 : decode cX2_lineBetween 0 = .ok (.aload_n 0, 1) := by decide +kernel
theorem dX2_lineBetween_1 : decode cX2_lineBetween 1 = .ok (.iload_n 2, 1) := by decide +kernel
theorem dX2_lineBetween_2 : decode cX2_lineBetween 2 = .ok (.invokevirtual 97, 3) := by decide +kernel
theorem dX2_lineBetween_5 : decode cX2_lineBetween 5 = .ok (.aload_n 0, 1) := by decide +kernel
theorem dX2_lineBetween_6 : decode cX2_lineBetween 6 = .ok (.iload_n 1, 1) := by decide +kernel
theorem dX2_lineBetween_7 : decode cX2_lineBetween 7 = .ok (.invokevirtual 97, 3) := by decide +kernel
theorem dX2_lineBetween_10 : decode cX2_lineBetween 10 = .ok (.lsub, 1) := by decide +kernel
theorem dX2_lineBetween_11 : decode cX2_lineBetween 11 = .ok (.lstore 4, 2) := by decide +kernel
theorem dX2_lineBetween_13 : decode cX2_lineBetween 13 = .ok (.aload_n 0, 1) := by decide +kernel
theorem dX2_lineBetween_14 : decode cX2_lineBetween 14 = .ok (.getfield 19, 3) := by decide +kernel
theorem dX2_lineBetween_17 : decode cX2_lineBetween 17 = .ok (.iload_n 2, 1) := by decide +kernel
theorem dX2_lineBetween_18 : decode cX2_lineBetween 18 = .ok (.laload, 1) := by decide +kernel
theorem dX2_lineBetween_19 : decode cX2_lineBetween 19 = .ok (.aload_n 0, 1) := by decide +kernel
theorem dX2_lineBetween_20 : decode cX2_lineBetween 20 = .ok (.getfield 19, 3) := by decide +kernel
theorem dX2_lineBetween_23 : decode cX2_lineBetween 23 = .ok (.iload_n 1, 1) := by decide +kernel
theorem dX2_lineBetween_24 : decode cX2_lineBetween 24 = .ok (.laload, 1) := by decide +kernel
theorem dX2_lineBetween_25 : decode cX2_lineBetween 25 = .ok (.lsub, 1) := by decide +kernel
theorem dX2_lineBetween_26 : decode cX2_lineBetween 26 = .ok (.lstore 6, 2) := by decide +kernel
theorem dX2_lineBetween_28 : decode cX2_lineBetween 28 = .ok (.lload 4, 2) := by decide +kernel
theorem dX2_lineBetween_30 : decode cX2_lineBetween 30 = .ok (.lconst 0, 1) := by decide +kernel
theorem dX2_lineBetween_31 : decode cX2_lineBetween 31 = .ok (.lcmp, 1) := by decide +kernel
theorem dX2_lineBetween_32 : decode cX2_lineBetween 32 = .ok (.ifCond .le 24, 3) := by decide +kernel
theorem dX2_lineBetween_35 : decode cX2_lineBetween 35 = .ok (.lload 6, 2) := by decide +kernel
theorem dX2_lineBetween_37 : decode cX2_lineBetween 37 = .ok (.lconst 0, 1) := by decide +kernel
theorem dX2_lineBetween_38 : decode cX2_lineBetween 38 = .ok (.lcmp, 1) := by decide +kernel
theorem dX2_lineBetween_39 : decode cX2_lineBetween 39 = .ok (.ifCond .ge 17, 3) := by decide +kernel
theorem dX2_lineBetween_42 : decode cX2_lineBetween 42 = .ok (.lload 4, 2) := by decide +kernel
theorem dX2_lineBetween_44 : decode cX2_lineBetween 44 = .ok (.lconst 1, 1) := by decide +kernel
theorem dX2_lineBetween_45 : decode cX2_lineBetween 45 = .ok (.lsub, 1) := by decide +kernel
theorem dX2_lineBetween_46 : decode cX2_lineBetween 46 = .ok (.lstore 4, 2) := by decide +kernel
theorem dX2_lineBetween_48 : decode cX2_lineBetween 48 = .ok (.lload 6, 2) := by decide +kernel
theorem dX2_lineBetween_50 : decode cX2_lineBetween 50 = .ok (.ldc2_w 82, 3) := by decide +kernel
theorem dX2_lineBetween_53 : decode cX2_lineBetween 53 = .ok (.ladd, 1) := by decide +kernel
theorem dX2_lineBetween_54 : decode cX2_lineBetween 54 = .ok (.lstore 6, 2) := by decide +kernel
theorem dX2_lineBetween_56 : decode cX2_lineBetween 56 = .ok (.lload 4, 2) := by decide +kernel
theorem dX2_lineBetween_58 : decode cX2_lineBetween 58 = .ok (.lconst 0, 1) := by decide +kernel
theorem dX2_lineBetween_59 : decode cX2_lineBetween 59 = .ok (.lcmp, 1) := by decide +kernel
theorem dX2_lineBetween_60 : decode cX2_lineBetween 60 = .ok (.ifCond .ge 24, 3) := by decide +kernel
theorem dX2_lineBetween_63 : decode cX2_lineBetween 63 = .ok (.lload 6, 2) := by decide +kernel
theorem dX2_lineBetween_65 : decode cX2_lineBetween 65 = .ok (.lconst 0, 1) := by decide +kernel
theorem dX2_lineBetween_66 : decode cX2_lineBetween 66 = .ok (.lcmp, 1) := by decide +kernel
theorem dX2_lineBetween_67 : decode cX2_lineBetween 67 = .ok (.ifCond .le 17, 3) := by decide +kernel
theorem dX2_lineBetween_70 : decode cX2_lineBetween 70 = .ok (.lload 4, 2) := by decide +kernel
theorem dX2_lineBetween_72 : decode cX2_lineBetween 72 = .ok (.lconst 1, 1) := by decide +kernel
theorem dX2_lineBetween_73 : decode cX2_lineBetween 73 = .ok (.ladd, 1) := by decide +kernel
theorem dX2_lineBetween_74 : decode cX2_lineBetween 74 = .ok (.lstore 4, 2) := by decide +kernel
theorem dX2_lineBetween_76 : decode cX2_lineBetween 76 = .ok (.lload 6, 2) := by decide +kernel
theorem dX2_lineBetween_78 : decode cX2_lineBetween 78 = .ok (.ldc2_w 82, 3) := by decide +kernel
theorem dX2_lineBetween_81 : decode cX2_lineBetween 81 = .ok (.lsub, 1) := by decide +kernel
theorem dX2_lineBetween_82 : decode cX2_lineBetween 82 = .ok (.lstore 6, 2) := by decide +kernel
theorem dX2_lineBetween_84 : decode cX2_lineBetween 84 = .ok (.iload_n 3, 1) := by decide +kernel
theorem dX2_lineBetween_85 : decode cX2_lineBetween 85 = .ok (.bipush 8, 2) := by decide +kernel
theorem dX2_lineBetween_87 : decode cX2_lineBetween 87 = .ok (.if_icmp .ne 10, 3) := by decide +kernel
theorem dX2_lineBetween_90 : decode cX2_lineBetween 90 = .ok (.lload 4, 2) := by decide +kernel
theorem dX2_lineBetween_92 : decode cX2_lineBetween 92 = .ok (.ldc2_w 68, 3) := by decide +kernel
theorem dX2_lineBetween_95 : decode cX2_lineBetween 95 = .ok (.ldiv, 1) := by decide +kernel
theorem dX2_lineBetween_96 : decode cX2_lineBetween 96 = .ok (.lreturn, 1) := by decide +kernel
theorem dX2_lineBetween_97 : decode cX2_lineBetween 97 = .ok (.lload 4, 2) := by decide +kernel
theorem dX2_lineBetween_99 : decode cX2_lineBetween 99 = .ok (.ldc2_w 82, 3) := by decide +kernel
theorem dX2_lineBetween_102 : decode cX2_lineBetween 102 = .ok (.iload_n 3, 1) := by decide +kernel
theorem dX2_lineBetween_103 : decode cX2_lineBetween 103 = .ok (.invokestatic 175, 3) := by decide +kernel
theorem dX2_lineBetween_106 : decode cX2_lineBetween 106 = .ok (.ldiv, 1) := by decide +kernel
theorem dX2_lineBetween_107 : decode cX2_lineBetween 107 = .ok (.lmul, 1) := by decide +kernel
theorem dX2_lineBetween_108 : decode cX2_lineBetween 108 = .ok (.lload 6, 2) := by decide +kernel
theorem dX2_lineBetween_110 : decode cX2_lineBetween 110 = .ok (.iload_n 3, 1) := by decide +kernel
theorem dX2_lineBetween_111 : decode cX2_lineBetween 111 = .ok (.invokestatic 175, 3) := by decide +kernel
theorem dX2_lineBetween_114 : decode cX2_lineBetween 114 = .ok (.ldiv, 1) := by decide +kernel
theorem dX2_lineBetween_115 : decode cX2_lineBetween 115 = .ok (.ladd, 1) := by decide +kernel
theorem dX2_lineBetween_116 : decode cX2_lineBetween 116 = .ok (.lreturn, 1) := by decide +kernel
theorem dX2_monthsOn_0 : decode cX2_monthsOn 0 = .ok (.ldc2_w 132, 3) := by decide +kernel
theorem dX2_monthsOn_3 : decode cX2_monthsOn 3 = .ok (.aload_n 0, 1) := by decide +kernel
theorem dX2_monthsOn_4 : decode cX2_monthsOn 4 = .ok (.getfield 7, 3) := by decide +kernel
theorem dX2_monthsOn_7 : decode cX2_monthsOn 7 = .ok (.iload_n 2, 1) := by decide +kernel
theorem dX2_monthsOn_8 : decode cX2_monthsOn 8 = .ok (.iaload, 1) := by decide +kernel
theorem dX2_monthsOn_9 : decode cX2_monthsOn 9 = .ok (.aload_n 0, 1) := by decide +kernel
theorem dX2_monthsOn_10 : decode cX2_monthsOn 10 = .ok (.getfield 7, 3) := by decide +kernel
theorem dX2_monthsOn_13 : decode cX2_monthsOn 13 = .ok (.iload_n 1, 1) := by decide +kernel
theorem dX2_monthsOn_14 : decode cX2_monthsOn 14 = .ok (.iaload, 1) := by decide +kernel
theorem dX2_monthsOn_15 : decode cX2_monthsOn 15 = .ok (.isub, 1) := by decide +kernel
theorem dX2_monthsOn_16 : decode cX2_monthsOn 16 = .ok (.i2l, 1) := by decide +kernel
theorem dX2_monthsOn_17 : decode cX2_monthsOn 17 = .ok (.lmul, 1) := by decide +kernel
theorem dX2_monthsOn_18 : decode cX2_monthsOn 18 = .ok (.aload_n 0, 1) := by decide +kernel
theorem dX2_monthsOn_19 : decode cX2_monthsOn 19 = .ok (.getfield 13, 3) := by decide +kernel
theorem dX2_monthsOn_22 : decode cX2_monthsOn 22 = .ok (.iload_n 2, 1) := by decide +kernel
theorem dX2_monthsOn_23 : decode cX2_monthsOn 23 = .ok (.iaload, 1) := by decide +kernel
theorem dX2_monthsOn_24 : decode cX2_monthsOn 24 = .ok (.i2l, 1) := by decide +kernel
theorem dX2_monthsOn_25 : decode cX2_monthsOn 25 = .ok (.ladd, 1) := by decide +kernel
theorem dX2_monthsOn_26 : decode cX2_monthsOn 26 = .ok (.aload_n 0, 1) := by decide +kernel
theorem dX2_monthsOn_27 : decode cX2_monthsOn 27 = .ok (.getfield 13, 3) := by decide +kernel
theorem dX2_monthsOn_30 : decode cX2_monthsOn 30 = .ok (.iload_n 1, 1) := by decide +kernel
theorem dX2_monthsOn_31 : decode cX2_monthsOn 31 = .ok (.iaload, 1) := by decide +kernel
theorem dX2_monthsOn_32 : decode cX2_monthsOn 32 = .ok (.i2l, 1) := by decide +kernel
theorem dX2_monthsOn_33 : decode cX2_monthsOn 33 = .ok (.lsub, 1) := by decide +kernel
theorem dX2_monthsOn_34 : decode cX2_monthsOn 34 = .ok (.lstore_n 3, 1) := by decide +kernel
theorem dX2_monthsOn_35 : decode cX2_monthsOn 35 = .ok (.aload_n 0, 1) := by decide +kernel
theorem dX2_monthsOn_36 : decode cX2_monthsOn 36 = .ok (.getfield 16, 3) := by decide +kernel
theorem dX2_monthsOn_39 : decode cX2_monthsOn 39 = .ok (.iload_n 2, 1) := by decide +kernel
theorem dX2_monthsOn_40 : decode cX2_monthsOn 40 = .ok (.iaload, 1) := by decide +kernel
theorem dX2_monthsOn_41 : decode cX2_monthsOn 41 = .ok (.aload_n 0, 1) := by decide +kernel
theorem dX2_monthsOn_42 : decode cX2_monthsOn 42 = .ok (.getfield 16, 3) := by decide +kernel
theorem dX2_monthsOn_45 : decode cX2_monthsOn 45 = .ok (.iload_n 1, 1) := by decide +kernel
theorem dX2_monthsOn_46 : decode cX2_monthsOn 46 = .ok (.iaload, 1) := by decide +kernel
theorem dX2_monthsOn_47 : decode cX2_monthsOn 47 = .ok (.if_icmp .lt 34, 3) := by decide +kernel
theorem dX2_monthsOn_50 : decode cX2_monthsOn 50 = .ok (.aload_n 0, 1) := by decide +kernel
theorem dX2_monthsOn_51 : decode cX2_monthsOn 51 = .ok (.getfield 16, 3) := by decide +kernel
theorem dX2_monthsOn_54 : decode cX2_monthsOn 54 = .ok (.iload_n 2, 1) := by decide +kernel
theorem dX2_monthsOn_55 : decode cX2_monthsOn 55 = .ok (.iaload, 1) := by decide +kernel
theorem dX2_monthsOn_56 : decode cX2_monthsOn 56 = .ok (.aload_n 0, 1) := by decide +kernel
theorem dX2_monthsOn_57 : decode cX2_monthsOn 57 = .ok (.getfield 16, 3) := by decide +kernel
theorem dX2_monthsOn_60 : decode cX2_monthsOn 60 = .ok (.iload_n 1, 1) := by decide +kernel
theorem dX2_monthsOn_61 : decode cX2_monthsOn 61 = .ok (.iaload, 1) := by decide +kernel
theorem dX2_monthsOn_62 : decode cX2_monthsOn 62 = .ok (.if_icmp .ne 23, 3) := by decide +kernel
theorem dX2_monthsOn_65 : decode cX2_monthsOn 65 = .ok (.aload_n 0, 1) := by decide +kernel
theorem dX2_monthsOn_66 : decode cX2_monthsOn 66 = .ok (.getfield 19, 3) := by decide +kernel
theorem dX2_monthsOn_69 : decode cX2_monthsOn 69 = .ok (.iload_n 2, 1) := by decide +kernel
theorem dX2_monthsOn_70 : decode cX2_monthsOn 70 = .ok (.laload, 1) := by decide +kernel
theorem dX2_monthsOn_71 : decode cX2_monthsOn 71 = .ok (.aload_n 0, 1) := by decide +kernel
theorem dX2_monthsOn_72 : decode cX2_monthsOn 72 = .ok (.getfield 19, 3) := by decide +kernel
theorem dX2_monthsOn_75 : decode cX2_monthsOn 75 = .ok (.iload_n 1, 1) := by decide +kernel
theorem dX2_monthsOn_76 : decode cX2_monthsOn 76 = .ok (.laload, 1) := by decide +kernel
theorem dX2_monthsOn_77 : decode cX2_monthsOn 77 = .ok (.lcmp, 1) := by decide +kernel
theorem dX2_monthsOn_78 : decode cX2_monthsOn 78 = .ok (.ifCond .ge 7, 3) := by decide +kernel
theorem dX2_monthsOn_81 : decode cX2_monthsOn 81 = .ok (.iconst 1, 1) := by decide +kernel
theorem dX2_monthsOn_82 : decode cX2_monthsOn 82 = .ok (.goto 4, 3) := by decide +kernel
theorem dX2_monthsOn_85 : decode cX2_monthsOn 85 = .ok (.iconst 0, 1) := by decide +kernel
theorem dX2_monthsOn_86 : decode cX2_monthsOn 86 = .ok (.istore 5, 2) := by decide +kernel
theorem dX2_monthsOn_88 : decode cX2_monthsOn 88 = .ok (.iload 5, 2) := by decide +kernel
theorem dX2_monthsOn_90 : decode cX2_monthsOn 90 = .ok (.ifCond .eq 9, 3) := by decide +kernel
theorem dX2_monthsOn_93 : decode cX2_monthsOn 93 = .ok (.lload_n 3, 1) := by decide +kernel
theorem dX2_monthsOn_94 : decode cX2_monthsOn 94 = .ok (.lconst 1, 1) := by decide +kernel
theorem dX2_monthsOn_95 : decode cX2_monthsOn 95 = .ok (.lsub, 1) := by decide +kernel
theorem dX2_monthsOn_96 : decode cX2_monthsOn 96 = .ok (.goto 4, 3) := by decide +kernel
theorem dX2_monthsOn_99 : decode cX2_monthsOn 99 = .ok (.lload_n 3, 1) := by decide +kernel
theorem dX2_monthsOn_100 : decode cX2_monthsOn 100 = .ok (.lreturn, 1) := by decide +kernel
theorem dX2_betweenNow_0 : decode cX2_betweenNow 0 = .ok (.iload_n 3, 1) := by decide +kernel
theorem dX2_betweenNow_1 : decode cX2_betweenNow 1 = .ok (.ifCond .ne 28, 3) := by decide +kernel
theorem dX2_betweenNow_4 : decode cX2_betweenNow 4 = .ok (.aload_n 0, 1) := by decide +kernel
theorem dX2_betweenNow_5 : decode cX2_betweenNow 5 = .ok (.iload_n 1, 1) := by decide +kernel
theorem dX2_betweenNow_6 : decode cX2_betweenNow 6 = .ok (.invokevirtual 97, 3) := by decide +kernel
theorem dX2_betweenNow_9 : decode cX2_betweenNow 9 = .ok (.aload_n 0, 1) := by decide +kernel
theorem dX2_betweenNow_10 : decode cX2_betweenNow 10 = .ok (.iload_n 2, 1) := by decide +kernel
theorem dX2_betweenNow_11 : decode cX2_betweenNow 11 = .ok (.invokevirtual 97, 3) := by decide +kernel
theorem dX2_betweenNow_14 : decode cX2_betweenNow 14 = .ok (.lsub, 1) := by decide +kernel
theorem dX2_betweenNow_15 : decode cX2_betweenNow 15 = .ok (.invokestatic 230, 3) := by decide +kernel
theorem dX2_betweenNow_18 : decode cX2_betweenNow 18 = .ok (.ldc2_w 233, 3) := by decide +kernel
theorem dX2_betweenNow_21 : decode cX2_betweenNow 21 = .ok (.lcmp, 1) := by decide +kernel
theorem dX2_betweenNow_22 : decode cX2_betweenNow 22 = .ok (.ifCond .le 7, 3) := by decide +kernel
theorem dX2_betweenNow_25 : decode cX2_betweenNow 25 = .ok (.iconst 1, 1) := by decide +kernel
theorem dX2_betweenNow_26 : decode cX2_betweenNow 26 = .ok (.goto 4, 3) := by decide +kernel
theorem dX2_betweenNow_29 : decode cX2_betweenNow 29 = .ok (.iconst 0, 1) := by decide +kernel
theorem dX2_betweenNow_30 : decode cX2_betweenNow 30 = .ok (.istore 4, 2) := by decide +kernel
theorem dX2_betweenNow_32 : decode cX2_betweenNow 32 = .ok (.iload 4, 2) := by decide +kernel
theorem dX2_betweenNow_34 : decode cX2_betweenNow 34 = .ok (.ifCond .ne 31, 3) := by decide +kernel
theorem dX2_betweenNow_37 : decode cX2_betweenNow 37 = .ok (.iload_n 3, 1) := by decide +kernel
theorem dX2_betweenNow_38 : decode cX2_betweenNow 38 = .ok (.bipush 8, 2) := by decide +kernel
theorem dX2_betweenNow_40 : decode cX2_betweenNow 40 = .ok (.if_icmp .le 38, 3) := by decide +kernel
theorem dX2_betweenNow_43 : decode cX2_betweenNow 43 = .ok (.aload_n 0, 1) := by decide +kernel
theorem dX2_betweenNow_44 : decode cX2_betweenNow 44 = .ok (.getfield 16, 3) := by decide +kernel
theorem dX2_betweenNow_47 : decode cX2_betweenNow 47 = .ok (.iload_n 1, 1) := by decide +kernel
theorem dX2_betweenNow_48 : decode cX2_betweenNow 48 = .ok (.iaload, 1) := by decide +kernel
theorem dX2_betweenNow_49 : decode cX2_betweenNow 49 = .ok (.bipush 28, 2) := by decide +kernel
theorem dX2_betweenNow_51 : decode cX2_betweenNow 51 = .ok (.if_icmp .gt 14, 3) := by decide +kernel
theorem dX2_betweenNow_54 : decode cX2_betweenNow 54 = .ok (.aload_n 0, 1) := by decide +kernel
theorem dX2_betweenNow_55 : decode cX2_betweenNow 55 = .ok (.getfield 16, 3) := by decide +kernel
theorem dX2_betweenNow_58 : decode cX2_betweenNow 58 = .ok (.iload_n 2, 1) := by decide +kernel
theorem dX2_betweenNow_59 : decode cX2_betweenNow 59 = .ok (.iaload, 1) := by decide +kernel
theorem dX2_betweenNow_60 : decode cX2_betweenNow 60 = .ok (.bipush 28, 2) := by decide +kernel
theorem dX2_betweenNow_62 : decode cX2_betweenNow 62 = .ok (.if_icmp .le 16, 3) := by decide +kernel
theorem dX2_betweenNow_65 : decode cX2_betweenNow 65 = .ok (.aload_n 0, 1) := by decide +kernel
theorem dX2_betweenNow_66 : decode cX2_betweenNow 66 = .ok (.dup, 1) := by decide +kernel
theorem dX2_betweenNow_67 : decode cX2_betweenNow 67 = .ok (.getfield 90, 3) := by decide +kernel
theorem dX2_betweenNow_70 : decode cX2_betweenNow 70 = .ok (.iconst 1, 1) := by decide +kernel
theorem dX2_betweenNow_71 : decode cX2_betweenNow 71 = .ok (.iadd, 1) := by decide +kernel
theorem dX2_betweenNow_72 : decode cX2_betweenNow 72 = .ok (.putfield 90, 3) := by decide +kernel
theorem dX2_betweenNow_75 : decode cX2_betweenNow 75 = .ok (.ldc 235, 2) := by decide +kernel
theorem dX2_betweenNow_77 : decode cX2_betweenNow 77 = .ok (.areturn, 1) := by decide +kernel
theorem dX2_betweenNow_78 : decode cX2_betweenNow 78 = .ok (.iload_n 3, 1) := by decide +kernel
theorem dX2_betweenNow_79 : decode cX2_betweenNow 79 = .ok (.bipush 9, 2) := by decide +kernel
theorem dX2_betweenNow_81 : decode cX2_betweenNow 81 = .ok (.if_icmp .ge 29, 3) := by decide +kernel
theorem dX2_betweenNow_84 : decode cX2_betweenNow 84 = .ok (.new 206, 3) := by decide +kernel
theorem dX2_betweenNow_87 : decode cX2_betweenNow 87 = .ok (.dup, 1) := by decide +kernel
theorem dX2_betweenNow_88 : decode cX2_betweenNow 88 = .ok (.invokespecial 208, 3) := by decide +kernel
theorem dX2_betweenNow_91 : decode cX2_betweenNow 91 = .ok (.ldc 204, 2) := by decide +kernel
theorem dX2_betweenNow_93 : decode cX2_betweenNow 93 = .ok (.invokevirtual 209, 3) := by decide +kernel
theorem dX2_betweenNow_96 : decode cX2_betweenNow 96 = .ok (.aload_n 0, 1) := by decide +kernel
theorem dX2_betweenNow_97 : decode cX2_betweenNow 97 = .ok (.iload_n 1, 1) := by decide +kernel
theorem dX2_betweenNow_98 : decode cX2_betweenNow 98 = .ok (.iload_n 2, 1) := by decide +kernel
theorem dX2_betweenNow_99 : decode cX2_betweenNow 99 = .ok (.iload_n 3, 1) := by decide +kernel
theorem dX2_betweenNow_100 : decode cX2_betweenNow 100 = .ok (.invokevirtual 237, 3) := by decide +kernel
theorem dX2_betweenNow_103 : decode cX2_betweenNow 103 = .ok (.invokevirtual 213, 3) := by decide +kernel
theorem dX2_betweenNow_106 : decode cX2_betweenNow 106 = .ok (.invokevirtual 216, 3) := by decide +kernel
theorem dX2_betweenNow_109 : decode cX2_betweenNow 109 = .ok (.areturn, 1) := by decide +kernel
theorem dX2_betweenNow_110 : decode cX2_betweenNow 110 = .ok (.aload_n 0, 1) := by decide +kernel
theorem dX2_betweenNow_111 : decode cX2_betweenNow 111 = .ok (.iload_n 1, 1) := by decide +kernel
theorem dX2_betweenNow_112 : decode cX2_betweenNow 112 = .ok (.iload_n 2, 1) := by decide +kernel
theorem dX2_betweenNow_113 : decode cX2_betweenNow 113 = .ok (.invokevirtual 227, 3) := by decide +kernel
theorem dX2_betweenNow_116 : decode cX2_betweenNow 116 = .ok (.ifCond .gt 12, 3) := by decide +kernel
theorem dX2_betweenNow_119 : decode cX2_betweenNow 119 = .ok (.aload_n 0, 1) := by decide +kernel
theorem dX2_betweenNow_120 : decode cX2_betweenNow 120 = .ok (.iload_n 1, 1) := by decide +kernel
theorem dX2_betweenNow_121 : decode cX2_betweenNow 121 = .ok (.iload_n 2, 1) := by decide +kernel
theorem dX2_betweenNow_122 : decode cX2_betweenNow 122 = .ok (.invokevirtual 240, 3) := by decide +kernel
theorem dX2_betweenNow_125 : decode cX2_betweenNow 125 = .ok (.goto 10, 3) := by decide +kernel
theorem dX2_betweenNow_128 : decode cX2_betweenNow 128 = .ok (.aload_n 0, 1) := by decide +kernel
theorem dX2_betweenNow_129 : decode cX2_betweenNow 129 = .ok (.iload_n 1, 1) := by decide +kernel
theorem dX2_betweenNow_130 : decode cX2_betweenNow 130 = .ok (.iload_n 2, 1) := by decide +kernel
theorem dX2_betweenNow_131 : decode cX2_betweenNow 131 = .ok (.invokevirtual 243, 3) := by decide +kernel
theorem dX2_betweenNow_134 : decode cX2_betweenNow 134 = .ok (.lneg, 1) := by decide +kernel
theorem dX2_betweenNow_135 : decode cX2_betweenNow 135 = .ok (.lstore 5, 2) := by decide +kernel
theorem dX2_betweenNow_137 : decode cX2_betweenNow 137 = .ok (.new 206, 3) := by decide +kernel
theorem dX2_betweenNow_140 : decode cX2_betweenNow 140 = .ok (.dup, 1) := by decide +kernel
theorem dX2_betweenNow_141 : decode cX2_betweenNow 141 = .ok (.invokespecial 208, 3) := by decide +kernel
theorem dX2_betweenNow_144 : decode cX2_betweenNow 144 = .ok (.ldc 204, 2) := by decide +kernel
theorem dX2_betweenNow_146 : decode cX2_betweenNow 146 = .ok (.invokevirtual 209, 3) := by decide +kernel
theorem dX2_betweenNow_149 : decode cX2_betweenNow 149 = .ok (.lload 5, 2) := by decide +kernel
theorem dX2_betweenNow_151 : decode cX2_betweenNow 151 = .ok (.iload_n 3, 1) := by decide +kernel
theorem dX2_betweenNow_152 : decode cX2_betweenNow 152 = .ok (.invokestatic 193, 3) := by decide +kernel
theorem dX2_betweenNow_155 : decode cX2_betweenNow 155 = .ok (.i2l, 1) := by decide +kernel
theorem dX2_betweenNow_156 : decode cX2_betweenNow 156 = .ok (.ldiv, 1) := by decide +kernel
theorem dX2_betweenNow_157 : decode cX2_betweenNow 157 = .ok (.invokevirtual 213, 3) := by decide +kernel
theorem dX2_betweenNow_160 : decode cX2_betweenNow 160 = .ok (.invokevirtual 216, 3) := by decide +kernel
theorem dX2_betweenNow_163 : decode cX2_betweenNow 163 = .ok (.areturn, 1) := by decide +kernel
theorem dX2_monthsBack_0 : decode cX2_monthsBack 0 = .ok (.aload_n 0, 1) := by decide +kernel
theorem dX2_monthsBack_1 : decode cX2_monthsBack 1 = .ok (.iload_n 2, 1) := by decide +kernel
theorem dX2_monthsBack_2 : decode cX2_monthsBack 2 = .ok (.iload_n 1, 1) := by decide +kernel
theorem dX2_monthsBack_3 : decode cX2_monthsBack 3 = .ok (.invokevirtual 240, 3) := by decide +kernel
theorem dX2_monthsBack_6 : decode cX2_monthsBack 6 = .ok (.lreturn, 1) := by decide +kernel
theorem dX2_between_0 : decode cX2_between 0 = .ok (.aload_n 0, 1) := by decide +kernel
theorem dX2_between_1 : decode cX2_between 1 = .ok (.iload_n 1, 1) := by decide +kernel
theorem dX2_between_2 : decode cX2_between 2 = .ok (.invokestatic 157, 3) := by decide +kernel
theorem dX2_between_5 : decode cX2_between 5 = .ok (.ifCond .ne 10, 3) := by decide +kernel
theorem dX2_between_8 : decode cX2_between 8 = .ok (.iload_n 2, 1) := by decide +kernel
theorem dX2_between_9 : decode cX2_between 9 = .ok (.invokestatic 157, 3) := by decide +kernel
theorem dX2_between_12 : decode cX2_between 12 = .ok (.ifCond .eq 7, 3) := by decide +kernel
theorem dX2_between_15 : decode cX2_between 15 = .ok (.iconst 1, 1) := by decide +kernel
theorem dX2_between_16 : decode cX2_between 16 = .ok (.goto 4, 3) := by decide +kernel
theorem dX2_between_19 : decode cX2_between 19 = .ok (.iconst 0, 1) := by decide +kernel
theorem dX2_between_20 : decode cX2_between 20 = .ok (.iconst 0, 1) := by decide +kernel
theorem dX2_between_21 : decode cX2_between 21 = .ok (.bipush 13, 2) := by decide +kernel
theorem dX2_between_23 : decode cX2_between 23 = .ok (.iload_n 3, 1) := by decide +kernel
theorem dX2_between_24 : decode cX2_between 24 = .ok (.invokestatic 86, 3) := by decide +kernel
theorem dX2_between_27 : decode cX2_between 27 = .ok (.ifCond .ne 7, 3) := by decide +kernel
theorem dX2_between_30 : decode cX2_between 30 = .ok (.iconst 1, 1) := by decide +kernel
theorem dX2_between_31 : decode cX2_between 31 = .ok (.goto 4, 3) := by decide +kernel
theorem dX2_between_34 : decode cX2_between 34 = .ok (.iconst 0, 1) := by decide +kernel
theorem dX2_between_35 : decode cX2_between 35 = .ok (.invokevirtual 160, 3) := by decide +kernel
theorem dX2_between_38 : decode cX2_between 38 = .ok (.ifCond .eq 8, 3) := by decide +kernel
theorem dX2_between_41 : decode cX2_between 41 = .ok (.ldc 204, 2) := by decide +kernel
theorem dX2_between_43 : decode cX2_between 43 = .ok (.goto 10, 3) := by decide +kernel
theorem dX2_between_46 : decode cX2_between 46 = .ok (.aload_n 0, 1) := by decide +kernel
theorem dX2_between_47 : decode cX2_between 47 = .ok (.iload_n 1, 1) := by decide +kernel
theorem dX2_between_48 : decode cX2_between 48 = .ok (.iload_n 2, 1) := by decide +kernel
theorem dX2_between_49 : decode cX2_between 49 = .ok (.iload_n 3, 1) := by decide +kernel
theorem dX2_between_50 : decode cX2_between 50 = .ok (.invokevirtual 246, 3) := by decide +kernel
theorem dX2_between_53 : decode cX2_between 53 = .ok (.areturn, 1) := by decide +kernel
theorem dX2_until_0 : decode cX2_until 0 = .ok (.aload_n 0, 1) := by decide +kernel
theorem dX2_until_1 : decode cX2_until 1 = .ok (.iload_n 1, 1) := by decide +kernel
theorem dX2_until_2 : decode cX2_until 2 = .ok (.invokestatic 157, 3) := by decide +kernel
theorem dX2_until_5 : decode cX2_until 5 = .ok (.ifCond .ne 10, 3) := by decide +kernel
theorem dX2_until_8 : decode cX2_until 8 = .ok (.iload_n 2, 1) := by decide +kernel
theorem dX2_until_9 : decode cX2_until 9 = .ok (.invokestatic 157, 3) := by decide +kernel
theorem dX2_until_12 : decode cX2_until 12 = .ok (.ifCond .eq 7, 3) := by decide +kernel
theorem dX2_until_15 : decode cX2_until 15 = .ok (.iconst 1, 1) := by decide +kernel
theorem dX2_until_16 : decode cX2_until 16 = .ok (.goto 4, 3) := by decide +kernel
theorem dX2_until_19 : decode cX2_until 19 = .ok (.iconst 0, 1) := by decide +kernel
theorem dX2_until_20 : decode cX2_until 20 = .ok (.iconst 0, 1) := by decide +kernel
theorem dX2_until_21 : decode cX2_until 21 = .ok (.bipush 13, 2) := by decide +kernel
theorem dX2_until_23 : decode cX2_until 23 = .ok (.iload_n 3, 1) := by decide +kernel
theorem dX2_until_24 : decode cX2_until 24 = .ok (.invokestatic 86, 3) := by decide +kernel
theorem dX2_until_27 : decode cX2_until 27 = .ok (.ifCond .ne 7, 3) := by decide +kernel
theorem dX2_until_30 : decode cX2_until 30 = .ok (.iconst 1, 1) := by decide +kernel
theorem dX2_until_31 : decode cX2_until 31 = .ok (.goto 4, 3) := by decide +kernel
theorem dX2_until_34 : decode cX2_until 34 = .ok (.iconst 0, 1) := by decide +kernel
theorem dX2_until_35 : decode cX2_until 35 = .ok (.invokevirtual 160, 3) := by decide +kernel
theorem dX2_until_38 : decode cX2_until 38 = .ok (.ifCond .eq 8, 3) := by decide +kernel
theorem dX2_until_41 : decode cX2_until 41 = .ok (.ldc 204, 2) := by decide +kernel
theorem dX2_until_43 : decode cX2_until 43 = .ok (.goto 10, 3) := by decide +kernel
theorem dX2_until_46 : decode cX2_until 46 = .ok (.aload_n 0, 1) := by decide +kernel
theorem dX2_until_47 : decode cX2_until 47 = .ok (.iload_n 1, 1) := by decide +kernel
theorem dX2_until_48 : decode cX2_until 48 = .ok (.iload_n 2, 1) := by decide +kernel
theorem dX2_until_49 : decode cX2_until 49 = .ok (.iload_n 3, 1) := by decide +kernel
theorem dX2_until_50 : decode cX2_until 50 = .ok (.invokevirtual 246, 3) := by decide +kernel
theorem dX2_until_53 : decode cX2_until 53 = .ok (.areturn, 1) := by decide +kernel
theorem dX2_likeOnes_0 : decode cX2_likeOnes 0 = .ok (.iconst 0, 1) := by decide +kernel
theorem dX2_likeOnes_1 : decode cX2_likeOnes 1 = .ok (.istore_n 1, 1) := by decide +kernel
theorem dX2_likeOnes_2 : decode cX2_likeOnes 2 = .ok (.iconst 1, 1) := by decide +kernel
theorem dX2_likeOnes_3 : decode cX2_likeOnes 3 = .ok (.istore_n 2, 1) := by decide +kernel
theorem dX2_likeOnes_4 : decode cX2_likeOnes 4 = .ok (.iload_n 2, 1) := by decide +kernel
theorem dX2_likeOnes_5 : decode cX2_likeOnes 5 = .ok (.bipush 6, 2) := by decide +kernel
theorem dX2_likeOnes_7 : decode cX2_likeOnes 7 = .ok (.if_icmp .ge 56, 3) := by decide +kernel
theorem dX2_likeOnes_10 : decode cX2_likeOnes 10 = .ok (.iconst 0, 1) := by decide +kernel
theorem dX2_likeOnes_11 : decode cX2_likeOnes 11 = .ok (.istore_n 3, 1) := by decide +kernel
theorem dX2_likeOnes_12 : decode cX2_likeOnes 12 = .ok (.iconst 0, 1) := by decide +kernel
theorem dX2_likeOnes_13 : decode cX2_likeOnes 13 = .ok (.istore 4, 2) := by decide +kernel
theorem dX2_likeOnes_15 : decode cX2_likeOnes 15 = .ok (.iload 4, 2) := by decide +kernel
theorem dX2_likeOnes_17 : decode cX2_likeOnes 17 = .ok (.iload_n 2, 1) := by decide +kernel
theorem dX2_likeOnes_18 : decode cX2_likeOnes 18 = .ok (.if_icmp .ge 27, 3) := by decide +kernel
theorem dX2_likeOnes_21 : decode cX2_likeOnes 21 = .ok (.iload_n 3, 1) := by decide +kernel
theorem dX2_likeOnes_22 : decode cX2_likeOnes 22 = .ok (.aload_n 0, 1) := by decide +kernel
theorem dX2_likeOnes_23 : decode cX2_likeOnes 23 = .ok (.iload_n 2, 1) := by decide +kernel
theorem dX2_likeOnes_24 : decode cX2_likeOnes 24 = .ok (.iload 4, 2) := by decide +kernel
theorem dX2_likeOnes_26 : decode cX2_likeOnes 26 = .ok (.invokevirtual 227, 3) := by decide +kernel
theorem dX2_likeOnes_29 : decode cX2_likeOnes 29 = .ok (.ifCond .ne 7, 3) := by decide +kernel
theorem dX2_likeOnes_32 : decode cX2_likeOnes 32 = .ok (.iconst 1, 1) := by decide +kernel
theorem dX2_likeOnes_33 : decode cX2_likeOnes 33 = .ok (.goto 4, 3) := by decide +kernel
theorem dX2_likeOnes_36 : decode cX2_likeOnes 36 = .ok (.iconst 0, 1) := by decide +kernel
theorem dX2_likeOnes_37 : decode cX2_likeOnes 37 = .ok (.ior, 1) := by decide +kernel
theorem dX2_likeOnes_38 : decode cX2_likeOnes 38 = .ok (.istore_n 3, 1) := by decide +kernel
theorem dX2_likeOnes_39 : decode cX2_likeOnes 39 = .ok (.iinc 4 1, 3) := by decide +kernel
theorem dX2_likeOnes_42 : decode cX2_likeOnes 42 = .ok (.goto (-27), 3) := by decide +kernel
theorem dX2_likeOnes_45 : decode cX2_likeOnes 45 = .ok (.iload_n 1, 1) := by decide +kernel
theorem dX2_likeOnes_46 : decode cX2_likeOnes 46 = .ok (.iload_n 3, 1) := by decide +kernel
theorem dX2_likeOnes_47 : decode cX2_likeOnes 47 = .ok (.ifCond .eq 7, 3) := by decide +kernel
theorem dX2_likeOnes_50 : decode cX2_likeOnes 50 = .ok (.iconst 1, 1) := by decide +kernel
theorem dX2_likeOnes_51 : decode cX2_likeOnes 51 = .ok (.goto 4, 3) := by decide +kernel
theorem dX2_likeOnes_54 : decode cX2_likeOnes 54 = .ok (.iconst 0, 1) := by decide +kernel
theorem dX2_likeOnes_55 : decode cX2_likeOnes 55 = .ok (.iadd, 1) := by decide +kernel
theorem dX2_likeOnes_56 : decode cX2_likeOnes 56 = .ok (.istore_n 1, 1) := by decide +kernel
theorem dX2_likeOnes_57 : decode cX2_likeOnes 57 = .ok (.iinc 2 1, 3) := by decide +kernel
theorem dX2_likeOnes_60 : decode cX2_likeOnes 60 = .ok (.goto (-56), 3) := by decide +kernel
theorem dX2_likeOnes_63 : decode cX2_likeOnes 63 = .ok (.iload_n 1, 1) := by decide +kernel
theorem dX2_likeOnes_64 : decode cX2_likeOnes 64 = .ok (.ireturn, 1) := by decide +kernel
theorem dX2_outer_0 : decode cX2_outer 0 = .ok (.iconst 0, 1) := by decide +kernel
theorem dX2_outer_1 : decode cX2_outer 1 = .ok (.istore_n 2, 1) := by decide +kernel
theorem dX2_outer_2 : decode cX2_outer 2 = .ok (.iconst 1, 1) := by decide +kernel
theorem dX2_outer_3 : decode cX2_outer 3 = .ok (.istore_n 3, 1) := by decide +kernel
theorem dX2_outer_4 : decode cX2_outer 4 = .ok (.iload_n 3, 1) := by decide +kernel
theorem dX2_outer_5 : decode cX2_outer 5 = .ok (.bipush 6, 2) := by decide +kernel
theorem dX2_outer_7 : decode cX2_outer 7 = .ok (.if_icmp .ge 21, 3) := by decide +kernel
theorem dX2_outer_10 : decode cX2_outer 10 = .ok (.aload_n 0, 1) := by decide +kernel
theorem dX2_outer_11 : decode cX2_outer 11 = .ok (.iload_n 3, 1) := by decide +kernel
theorem dX2_outer_12 : decode cX2_outer 12 = .ok (.iload_n 2, 1) := by decide +kernel
theorem dX2_outer_13 : decode cX2_outer 13 = .ok (.invokevirtual 227, 3) := by decide +kernel
theorem dX2_outer_16 : decode cX2_outer 16 = .ok (.iload_n 1, 1) := by decide +kernel
theorem dX2_outer_17 : decode cX2_outer 17 = .ok (.if_icmp .ne 5, 3) := by decide +kernel
theorem dX2_outer_20 : decode cX2_outer 20 = .ok (.iload_n 3, 1) := by decide +kernel
theorem dX2_outer_21 : decode cX2_outer 21 = .ok (.istore_n 2, 1) := by decide +kernel
theorem dX2_outer_22 : decode cX2_outer 22 = .ok (.iinc 3 1, 3) := by decide +kernel
theorem dX2_outer_25 : decode cX2_outer 25 = .ok (.goto (-21), 3) := by decide +kernel
theorem dX2_outer_28 : decode cX2_outer 28 = .ok (.iload_n 2, 1) := by decide +kernel
theorem dX2_outer_29 : decode cX2_outer 29 = .ok (.ireturn, 1) := by decide +kernel
theorem dX2_houseNow_0 : decode cX2_houseNow 0 = .ok (.iload_n 1, 1) := by decide +kernel
theorem dX2_houseNow_1 : decode cX2_houseNow 1 = .ok (.tableswitch 62 0 4 #[35, 40, 45, 50, 56], 35) := by decide +kernel
theorem dX2_houseNow_36 : decode cX2_houseNow 36 = .ok (.aload_n 0, 1) := by decide +kernel
theorem dX2_houseNow_37 : decode cX2_houseNow 37 = .ok (.getfield 105, 3) := by decide +kernel
theorem dX2_houseNow_40 : decode cX2_houseNow 40 = .ok (.ireturn, 1) := by decide +kernel
theorem dX2_houseNow_41 : decode cX2_houseNow 41 = .ok (.aload_n 0, 1) := by decide +kernel
theorem dX2_houseNow_42 : decode cX2_houseNow 42 = .ok (.getfield 90, 3) := by decide +kernel
theorem dX2_houseNow_45 : decode cX2_houseNow 45 = .ok (.ireturn, 1) := by decide +kernel
theorem dX2_houseNow_46 : decode cX2_houseNow 46 = .ok (.aload_n 0, 1) := by decide +kernel
theorem dX2_houseNow_47 : decode cX2_houseNow 47 = .ok (.invokevirtual 250, 3) := by decide +kernel
theorem dX2_houseNow_50 : decode cX2_houseNow 50 = .ok (.ireturn, 1) := by decide +kernel
theorem dX2_houseNow_51 : decode cX2_houseNow 51 = .ok (.aload_n 0, 1) := by decide +kernel
theorem dX2_houseNow_52 : decode cX2_houseNow 52 = .ok (.iconst (-1), 1) := by decide +kernel
theorem dX2_houseNow_53 : decode cX2_houseNow 53 = .ok (.invokevirtual 253, 3) := by decide +kernel
theorem dX2_houseNow_56 : decode cX2_houseNow 56 = .ok (.ireturn, 1) := by decide +kernel
theorem dX2_houseNow_57 : decode cX2_houseNow 57 = .ok (.aload_n 0, 1) := by decide +kernel
theorem dX2_houseNow_58 : decode cX2_houseNow 58 = .ok (.iconst 1, 1) := by decide +kernel
theorem dX2_houseNow_59 : decode cX2_houseNow 59 = .ok (.invokevirtual 253, 3) := by decide +kernel
theorem dX2_houseNow_62 : decode cX2_houseNow 62 = .ok (.ireturn, 1) := by decide +kernel
theorem dX2_houseNow_63 : decode cX2_houseNow 63 = .ok (.aload_n 0, 1) := by decide +kernel
theorem dX2_houseNow_64 : decode cX2_houseNow 64 = .ok (.getfield 256, 3) := by decide +kernel
theorem dX2_houseNow_67 : decode cX2_houseNow 67 = .ok (.ireturn, 1) := by decide +kernel
theorem dX2_house_0 : decode cX2_house 0 = .ok (.aload_n 0, 1) := by decide +kernel
theorem dX2_house_1 : decode cX2_house 1 = .ok (.iconst 0, 1) := by decide +kernel
theorem dX2_house_2 : decode cX2_house 2 = .ok (.iconst 5, 1) := by decide +kernel
theorem dX2_house_3 : decode cX2_house 3 = .ok (.iload_n 1, 1) := by decide +kernel
theorem dX2_house_4 : decode cX2_house 4 = .ok (.invokestatic 86, 3) := by decide +kernel
theorem dX2_house_7 : decode cX2_house 7 = .ok (.ifCond .eq 7, 3) := by decide +kernel
theorem dX2_house_10 : decode cX2_house 10 = .ok (.iconst 0, 1) := by decide +kernel
theorem dX2_house_11 : decode cX2_house 11 = .ok (.goto 4, 3) := by decide +kernel
theorem dX2_house_14 : decode cX2_house 14 = .ok (.iconst 1, 1) := by decide +kernel
theorem dX2_house_15 : decode cX2_house 15 = .ok (.putfield 23, 3) := by decide +kernel
theorem dX2_house_18 : decode cX2_house 18 = .ok (.aload_n 0, 1) := by decide +kernel
theorem dX2_house_19 : decode cX2_house 19 = .ok (.getfield 23, 3) := by decide +kernel
theorem dX2_house_22 : decode cX2_house 22 = .ok (.ifCond .le 7, 3) := by decide +kernel
theorem dX2_house_25 : decode cX2_house 25 = .ok (.iconst 0, 1) := by decide +kernel
theorem dX2_house_26 : decode cX2_house 26 = .ok (.goto 8, 3) := by decide +kernel
theorem dX2_house_29 : decode cX2_house 29 = .ok (.aload_n 0, 1) := by decide +kernel
theorem dX2_house_30 : decode cX2_house 30 = .ok (.iload_n 1, 1) := by decide +kernel
theorem dX2_house_31 : decode cX2_house 31 = .ok (.invokevirtual 259, 3) := by decide +kernel
theorem dX2_house_34 : decode cX2_house 34 = .ok (.ireturn, 1) := by decide +kernel
theorem dX2_knock_0 : decode cX2_knock 0 = .ok (.aload_n 0, 1) := by decide +kernel
theorem dX2_knock_1 : decode cX2_knock 1 = .ok (.iconst 0, 1) := by decide +kernel
theorem dX2_knock_2 : decode cX2_knock 2 = .ok (.putfield 23, 3) := by decide +kernel
theorem dX2_knock_5 : decode cX2_knock 5 = .ok (.aload_n 0, 1) := by decide +kernel
theorem dX2_knock_6 : decode cX2_knock 6 = .ok (.dup, 1) := by decide +kernel
theorem dX2_knock_7 : decode cX2_knock 7 = .ok (.getfield 256, 3) := by decide +kernel
theorem dX2_knock_10 : decode cX2_knock 10 = .ok (.iconst 1, 1) := by decide +kernel
theorem dX2_knock_11 : decode cX2_knock 11 = .ok (.iadd, 1) := by decide +kernel
theorem dX2_knock_12 : decode cX2_knock 12 = .ok (.dup_x1, 1) := by decide +kernel
theorem dX2_knock_13 : decode cX2_knock 13 = .ok (.putfield 256, 3) := by decide +kernel
theorem dX2_knock_16 : decode cX2_knock 16 = .ok (.ireturn, 1) := by decide +kernel
theorem dX2_isSound_0 : decode cX2_isSound 0 = .ok (.aload_n 0, 1) := by decide +kernel
theorem dX2_isSound_1 : decode cX2_isSound 1 = .ok (.iconst 0, 1) := by decide +kernel
theorem dX2_isSound_2 : decode cX2_isSound 2 = .ok (.putfield 23, 3) := by decide +kernel
theorem dX2_isSound_5 : decode cX2_isSound 5 = .ok (.iconst 1, 1) := by decide +kernel
theorem dX2_isSound_6 : decode cX2_isSound 6 = .ok (.ireturn, 1) := by decide +kernel
theorem dX2_digest_0 : decode cX2_digest 0 = .ok (.aload_n 0, 1) := by decide +kernel
theorem dX2_digest_1 : decode cX2_digest 1 = .ok (.iconst 0, 1) := by decide +kernel
theorem dX2_digest_2 : decode cX2_digest 2 = .ok (.putfield 23, 3) := by decide +kernel
theorem dX2_digest_5 : decode cX2_digest 5 = .ok (.ldc2_w 262, 3) := by decide +kernel
theorem dX2_digest_8 : decode cX2_digest 8 = .ok (.lstore_n 1, 1) := by decide +kernel
theorem dX2_digest_9 : decode cX2_digest 9 = .ok (.iconst 0, 1) := by decide +kernel
theorem dX2_digest_10 : decode cX2_digest 10 = .ok (.istore_n 3, 1) := by decide +kernel
theorem dX2_digest_11 : decode cX2_digest 11 = .ok (.iload_n 3, 1) := by decide +kernel
theorem dX2_digest_12 : decode cX2_digest 12 = .ok (.bipush 6, 2) := by decide +kernel
theorem dX2_digest_14 : decode cX2_digest 14 = .ok (.if_icmp .ge 176, 3) := by decide +kernel
theorem dX2_digest_17 : decode cX2_digest 17 = .ok (.bipush 10, 2) := by decide +kernel
theorem dX2_digest_19 : decode cX2_digest 19 = .ok (.newarray .long, 2) := by decide +kernel
theorem dX2_digest_21 : decode cX2_digest 21 = .ok (.dup, 1) := by decide +kernel
theorem dX2_digest_22 : decode cX2_digest 22 = .ok (.iconst 0, 1) := by decide +kernel
theorem dX2_digest_23 : decode cX2_digest 23 = .ok (.aload_n 0, 1) := by decide +kernel
theorem dX2_digest_24 : decode cX2_digest 24 = .ok (.getfield 7, 3) := by decide +kernel
theorem dX2_digest_27 : decode cX2_digest 27 = .ok (.iload_n 3, 1) := by decide +kernel
theorem dX2_digest_28 : decode cX2_digest 28 = .ok (.iaload, 1) := by decide +kernel
theorem dX2_digest_29 : decode cX2_digest 29 = .ok (.i2l, 1) := by decide +kernel
theorem dX2_digest_30 : decode cX2_digest 30 = .ok (.lastore, 1) := by decide +kernel
theorem dX2_digest_31 : decode cX2_digest 31 = .ok (.dup, 1) := by decide +kernel
theorem dX2_digest_32 : decode cX2_digest 32 = .ok (.iconst 1, 1) := by decide +kernel
theorem dX2_digest_33 : decode cX2_digest 33 = .ok (.aload_n 0, 1) := by decide +kernel
theorem dX2_digest_34 : decode cX2_digest 34 = .ok (.getfield 13, 3) := by decide +kernel
theorem dX2_digest_37 : decode cX2_digest 37 = .ok (.iload_n 3, 1) := by decide +kernel
theorem dX2_digest_38 : decode cX2_digest 38 = .ok (.iaload, 1) := by decide +kernel
theorem dX2_digest_39 : decode cX2_digest 39 = .ok (.i2l, 1) := by decide +kernel
theorem dX2_digest_40 : decode cX2_digest 40 = .ok (.lastore, 1) := by decide +kernel
theorem dX2_digest_41 : decode cX2_digest 41 = .ok (.dup, 1) := by decide +kernel
theorem dX2_digest_42 : decode cX2_digest 42 = .ok (.iconst 2, 1) := by decide +kernel
theorem dX2_digest_43 : decode cX2_digest 43 = .ok (.aload_n 0, 1) := by decide +kernel
theorem dX2_digest_44 : decode cX2_digest 44 = .ok (.getfield 16, 3) := by decide +kernel
theorem dX2_digest_47 : decode cX2_digest 47 = .ok (.iload_n 3, 1) := by decide +kernel
theorem dX2_digest_48 : decode cX2_digest 48 = .ok (.iaload, 1) := by decide +kernel
theorem dX2_digest_49 : decode cX2_digest 49 = .ok (.i2l, 1) := by decide +kernel
theorem dX2_digest_50 : decode cX2_digest 50 = .ok (.lastore, 1) := by decide +kernel
theorem dX2_digest_51 : decode cX2_digest 51 = .ok (.dup, 1) := by decide +kernel
theorem dX2_digest_52 : decode cX2_digest 52 = .ok (.iconst 3, 1) := by decide +kernel
theorem dX2_digest_53 : decode cX2_digest 53 = .ok (.aload_n 0, 1) := by decide +kernel
theorem dX2_digest_54 : decode cX2_digest 54 = .ok (.iload_n 3, 1) := by decide +kernel
theorem dX2_digest_55 : decode cX2_digest 55 = .ok (.invokevirtual 196, 3) := by decide +kernel
theorem dX2_digest_58 : decode cX2_digest 58 = .ok (.i2l, 1) := by decide +kernel
theorem dX2_digest_59 : decode cX2_digest 59 = .ok (.lastore, 1) := by decide +kernel
theorem dX2_digest_60 : decode cX2_digest 60 = .ok (.dup, 1) := by decide +kernel
theorem dX2_digest_61 : decode cX2_digest 61 = .ok (.iconst 4, 1) := by decide +kernel
theorem dX2_digest_62 : decode cX2_digest 62 = .ok (.aload_n 0, 1) := by decide +kernel
theorem dX2_digest_63 : decode cX2_digest 63 = .ok (.iload_n 3, 1) := by decide +kernel
theorem dX2_digest_64 : decode cX2_digest 64 = .ok (.invokevirtual 108, 3) := by decide +kernel
theorem dX2_digest_67 : decode cX2_digest 67 = .ok (.i2l, 1) := by decide +kernel
theorem dX2_digest_68 : decode cX2_digest 68 = .ok (.lastore, 1) := by decide +kernel
theorem dX2_digest_69 : decode cX2_digest 69 = .ok (.dup, 1) := by decide +kernel
theorem dX2_digest_70 : decode cX2_digest 70 = .ok (.iconst 5, 1) := by decide +kernel
theorem dX2_digest_71 : decode cX2_digest 71 = .ok (.aload_n 0, 1) := by decide +kernel
theorem dX2_digest_72 : decode cX2_digest 72 = .ok (.iload_n 3, 1) := by decide +kernel
theorem dX2_digest_73 : decode cX2_digest 73 = .ok (.iconst 5, 1) := by decide +kernel
theorem dX2_digest_74 : decode cX2_digest 74 = .ok (.invokestatic 175, 3) := by decide +kernel
theorem dX2_digest_77 : decode cX2_digest 77 = .ok (.ldc2_w 169, 3) := by decide +kernel
theorem dX2_digest_80 : decode cX2_digest 80 = .ok (.invokevirtual 199, 3) := by decide +kernel
theorem dX2_digest_83 : decode cX2_digest 83 = .ok (.i2l, 1) := by decide +kernel
theorem dX2_digest_84 : decode cX2_digest 84 = .ok (.lastore, 1) := by decide +kernel
theorem dX2_digest_85 : decode cX2_digest 85 = .ok (.dup, 1) := by decide +kernel
theorem dX2_digest_86 : decode cX2_digest 86 = .ok (.bipush 6, 2) := by decide +kernel
theorem dX2_digest_88 : decode cX2_digest 88 = .ok (.aload_n 0, 1) := by decide +kernel
theorem dX2_digest_89 : decode cX2_digest 89 = .ok (.iload_n 3, 1) := by decide +kernel
theorem dX2_digest_90 : decode cX2_digest 90 = .ok (.iconst 4, 1) := by decide +kernel
theorem dX2_digest_91 : decode cX2_digest 91 = .ok (.invokestatic 175, 3) := by decide +kernel
theorem dX2_digest_94 : decode cX2_digest 94 = .ok (.ldc2_w 155, 3) := by decide +kernel
theorem dX2_digest_97 : decode cX2_digest 97 = .ok (.invokevirtual 199, 3) := by decide +kernel
theorem dX2_digest_100 : decode cX2_digest 100 = .ok (.i2l, 1) := by decide +kernel
theorem dX2_digest_101 : decode cX2_digest 101 = .ok (.lastore, 1) := by decide +kernel
theorem dX2_digest_102 : decode cX2_digest 102 = .ok (.dup, 1) := by decide +kernel
theorem dX2_digest_103 : decode cX2_digest 103 = .ok (.bipush 7, 2) := by decide +kernel
theorem dX2_digest_105 : decode cX2_digest 105 = .ok (.aload_n 0, 1) := by decide +kernel
theorem dX2_digest_106 : decode cX2_digest 106 = .ok (.iload_n 3, 1) := by decide +kernel
theorem dX2_digest_107 : decode cX2_digest 107 = .ok (.ldc2_w 74, 3) := by decide +kernel
theorem dX2_digest_110 : decode cX2_digest 110 = .ok (.ldc2_w 155, 3) := by decide +kernel
theorem dX2_digest_113 : decode cX2_digest 113 = .ok (.invokevirtual 199, 3) := by decide +kernel
theorem dX2_digest_116 : decode cX2_digest 116 = .ok (.i2l, 1) := by decide +kernel
theorem dX2_digest_117 : decode cX2_digest 117 = .ok (.lastore, 1) := by decide +kernel
theorem dX2_digest_118 : decode cX2_digest 118 = .ok (.dup, 1) := by decide +kernel
theorem dX2_digest_119 : decode cX2_digest 119 = .ok (.bipush 8, 2) := by decide +kernel
theorem dX2_digest_121 : decode cX2_digest 121 = .ok (.aload_n 0, 1) := by decide +kernel
theorem dX2_digest_122 : decode cX2_digest 122 = .ok (.iload_n 3, 1) := by decide +kernel
theorem dX2_digest_123 : decode cX2_digest 123 = .ok (.lconst 1, 1) := by decide +kernel
theorem dX2_digest_124 : decode cX2_digest 124 = .ok (.ldc2_w 74, 3) := by decide +kernel
theorem dX2_digest_127 : decode cX2_digest 127 = .ok (.invokevirtual 199, 3) := by decide +kernel
theorem dX2_digest_130 : decode cX2_digest 130 = .ok (.i2l, 1) := by decide +kernel
theorem dX2_digest_131 : decode cX2_digest 131 = .ok (.lastore, 1) := by decide +kernel
theorem dX2_digest_132 : decode cX2_digest 132 = .ok (.dup, 1) := by decide +kernel
theorem dX2_digest_133 : decode cX2_digest 133 = .ok (.bipush 9, 2) := by decide +kernel
theorem dX2_digest_135 : decode cX2_digest 135 = .ok (.aload_n 0, 1) := by decide +kernel
theorem dX2_digest_136 : decode cX2_digest 136 = .ok (.iload_n 3, 1) := by decide +kernel
theorem dX2_digest_137 : decode cX2_digest 137 = .ok (.invokevirtual 97, 3) := by decide +kernel
theorem dX2_digest_140 : decode cX2_digest 140 = .ok (.lastore, 1) := by decide +kernel
theorem dX2_digest_141 : decode cX2_digest 141 = .ok (.astore 4, 2) := by decide +kernel
theorem dX2_digest_143 : decode cX2_digest 143 = .ok (.aload 4, 2) := by decide +kernel
theorem dX2_digest_145 : decode cX2_digest 145 = .ok (.astore 5, 2) := by decide +kernel
theorem dX2_digest_147 : decode cX2_digest 147 = .ok (.aload 5, 2) := by decide +kernel
theorem dX2_digest_149 : decode cX2_digest 149 = .ok (.arraylength, 1) := by decide +kernel
theorem dX2_digest_150 : decode cX2_digest 150 = .ok (.istore 6, 2) := by decide +kernel
theorem dX2_digest_152 : decode cX2_digest 152 = .ok (.iconst 0, 1) := by decide +kernel
theorem dX2_digest_153 : decode cX2_digest 153 = .ok (.istore 7, 2) := by decide +kernel
theorem dX2_digest_155 : decode cX2_digest 155 = .ok (.iload 7, 2) := by decide +kernel
theorem dX2_digest_157 : decode cX2_digest 157 = .ok (.iload 6, 2) := by decide +kernel
theorem dX2_digest_159 : decode cX2_digest 159 = .ok (.if_icmp .ge 25, 3) := by decide +kernel
theorem dX2_digest_162 : decode cX2_digest 162 = .ok (.aload 5, 2) := by decide +kernel
theorem dX2_digest_164 : decode cX2_digest 164 = .ok (.iload 7, 2) := by decide +kernel
theorem dX2_digest_166 : decode cX2_digest 166 = .ok (.laload, 1) := by decide +kernel
theorem dX2_digest_167 : decode cX2_digest 167 = .ok (.lstore 8, 2) := by decide +kernel
theorem dX2_digest_169 : decode cX2_digest 169 = .ok (.lload_n 1, 1) := by decide +kernel
theorem dX2_digest_170 : decode cX2_digest 170 = .ok (.ldc2_w 264, 3) := by decide +kernel
theorem dX2_digest_173 : decode cX2_digest 173 = .ok (.lmul, 1) := by decide +kernel
theorem dX2_digest_174 : decode cX2_digest 174 = .ok (.lload 8, 2) := by decide +kernel
theorem dX2_digest_176 : decode cX2_digest 176 = .ok (.ladd, 1) := by decide +kernel
theorem dX2_digest_177 : decode cX2_digest 177 = .ok (.lstore_n 1, 1) := by decide +kernel
theorem dX2_digest_178 : decode cX2_digest 178 = .ok (.iinc 7 1, 3) := by decide +kernel
theorem dX2_digest_181 : decode cX2_digest 181 = .ok (.goto (-26), 3) := by decide +kernel
theorem dX2_digest_184 : decode cX2_digest 184 = .ok (.iinc 3 1, 3) := by decide +kernel
theorem dX2_digest_187 : decode cX2_digest 187 = .ok (.goto (-176), 3) := by decide +kernel
theorem dX2_digest_190 : decode cX2_digest 190 = .ok (.iconst 0, 1) := by decide +kernel
theorem dX2_digest_191 : decode cX2_digest 191 = .ok (.istore_n 3, 1) := by decide +kernel
theorem dX2_digest_192 : decode cX2_digest 192 = .ok (.iload_n 3, 1) := by decide +kernel
theorem dX2_digest_193 : decode cX2_digest 193 = .ok (.bipush 6, 2) := by decide +kernel
theorem dX2_digest_195 : decode cX2_digest 195 = .ok (.if_icmp .ge 59, 3) := by decide +kernel
theorem dX2_digest_198 : decode cX2_digest 198 = .ok (.iload_n 3, 1) := by decide +kernel
theorem dX2_digest_199 : decode cX2_digest 199 = .ok (.iconst 1, 1) := by decide +kernel
theorem dX2_digest_200 : decode cX2_digest 200 = .ok (.iadd, 1) := by decide +kernel
theorem dX2_digest_201 : decode cX2_digest 201 = .ok (.istore 4, 2) := by decide +kernel
theorem dX2_digest_203 : decode cX2_digest 203 = .ok (.iload 4, 2) := by decide +kernel
theorem dX2_digest_205 : decode cX2_digest 205 = .ok (.bipush 6, 2) := by decide +kernel
theorem dX2_digest_207 : decode cX2_digest 207 = .ok (.if_icmp .ge 41, 3) := by decide +kernel
theorem dX2_digest_210 : decode cX2_digest 210 = .ok (.lload_n 1, 1) := by decide +kernel
theorem dX2_digest_211 : decode cX2_digest 211 = .ok (.ldc2_w 264, 3) := by decide +kernel
theorem dX2_digest_214 : decode cX2_digest 214 = .ok (.lmul, 1) := by decide +kernel
theorem dX2_digest_215 : decode cX2_digest 215 = .ok (.aload_n 0, 1) := by decide +kernel
theorem dX2_digest_216 : decode cX2_digest 216 = .ok (.iload_n 3, 1) := by decide +kernel
theorem dX2_digest_217 : decode cX2_digest 217 = .ok (.iload 4, 2) := by decide +kernel
theorem dX2_digest_219 : decode cX2_digest 219 = .ok (.invokevirtual 227, 3) := by decide +kernel
theorem dX2_digest_222 : decode cX2_digest 222 = .ok (.i2l, 1) := by decide +kernel
theorem dX2_digest_223 : decode cX2_digest 223 = .ok (.ladd, 1) := by decide +kernel
theorem dX2_digest_224 : decode cX2_digest 224 = .ok (.ldc2_w 264, 3) := by decide +kernel
theorem dX2_digest_227 : decode cX2_digest 227 = .ok (.lmul, 1) := by decide +kernel
theorem dX2_digest_228 : decode cX2_digest 228 = .ok (.aload_n 0, 1) := by decide +kernel
theorem dX2_digest_229 : decode cX2_digest 229 = .ok (.iload_n 3, 1) := by decide +kernel
theorem dX2_digest_230 : decode cX2_digest 230 = .ok (.iload 4, 2) := by decide +kernel
theorem dX2_digest_232 : decode cX2_digest 232 = .ok (.iconst 5, 1) := by decide +kernel
theorem dX2_digest_233 : decode cX2_digest 233 = .ok (.invokevirtual 246, 3) := by decide +kernel
theorem dX2_digest_236 : decode cX2_digest 236 = .ok (.invokevirtual 266, 3) := by decide +kernel
theorem dX2_digest_239 : decode cX2_digest 239 = .ok (.i2l, 1) := by decide +kernel
theorem dX2_digest_240 : decode cX2_digest 240 = .ok (.ladd, 1) := by decide +kernel
theorem dX2_digest_241 : decode cX2_digest 241 = .ok (.lstore_n 1, 1) := by decide +kernel
theorem dX2_digest_242 : decode cX2_digest 242 = .ok (.iinc 4 1, 3) := by decide +kernel
theorem dX2_digest_245 : decode cX2_digest 245 = .ok (.goto (-42), 3) := by decide +kernel
theorem dX2_digest_248 : decode cX2_digest 248 = .ok (.iinc 3 1, 3) := by decide +kernel
theorem dX2_digest_251 : decode cX2_digest 251 = .ok (.goto (-59), 3) := by decide +kernel
theorem dX2_digest_254 : decode cX2_digest 254 = .ok (.iconst 0, 1) := by decide +kernel
theorem dX2_digest_255 : decode cX2_digest 255 = .ok (.istore_n 3, 1) := by decide +kernel
theorem dX2_digest_256 : decode cX2_digest 256 = .ok (.iload_n 3, 1) := by decide +kernel
theorem dX2_digest_257 : decode cX2_digest 257 = .ok (.bipush 6, 2) := by decide +kernel
theorem dX2_digest_259 : decode cX2_digest 259 = .ok (.if_icmp .ge 22, 3) := by decide +kernel
theorem dX2_digest_262 : decode cX2_digest 262 = .ok (.lload_n 1, 1) := by decide +kernel
theorem dX2_digest_263 : decode cX2_digest 263 = .ok (.ldc2_w 264, 3) := by decide +kernel
theorem dX2_digest_266 : decode cX2_digest 266 = .ok (.lmul, 1) := by decide +kernel
theorem dX2_digest_267 : decode cX2_digest 267 = .ok (.aload_n 0, 1) := by decide +kernel
theorem dX2_digest_268 : decode cX2_digest 268 = .ok (.iload_n 3, 1) := by decide +kernel
theorem dX2_digest_269 : decode cX2_digest 269 = .ok (.invokevirtual 259, 3) := by decide +kernel
theorem dX2_digest_272 : decode cX2_digest 272 = .ok (.i2l, 1) := by decide +kernel
theorem dX2_digest_273 : decode cX2_digest 273 = .ok (.ladd, 1) := by decide +kernel
theorem dX2_digest_274 : decode cX2_digest 274 = .ok (.lstore_n 1, 1) := by decide +kernel
theorem dX2_digest_275 : decode cX2_digest 275 = .ok (.iinc 3 1, 3) := by decide +kernel
theorem dX2_digest_278 : decode cX2_digest 278 = .ok (.goto (-22), 3) := by decide +kernel
theorem dX2_digest_281 : decode cX2_digest 281 = .ok (.lload_n 1, 1) := by decide +kernel
theorem dX2_digest_282 : decode cX2_digest 282 = .ok (.ldc2_w 264, 3) := by decide +kernel
theorem dX2_digest_285 : decode cX2_digest 285 = .ok (.lmul, 1) := by decide +kernel
theorem dX2_digest_286 : decode cX2_digest 286 = .ok (.lconst 1, 1) := by decide +kernel
theorem dX2_digest_287 : decode cX2_digest 287 = .ok (.ladd, 1) := by decide +kernel
theorem dX2_digest_288 : decode cX2_digest 288 = .ok (.lreturn, 1) := by decide +kernel
